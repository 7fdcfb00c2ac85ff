/** Promises 8 and 9: both sides of each boundary that they name. */
public final class ReadEdgesTest {
    private static final int BAD = GradingMixes.BAD;
    private static final Check check = new Check();

    public static void main(String[] args) {
        unitSigns();
        unitAtMost60();
        unitRoomBehindRead();
        unitRefusedIsNotCollected();
        readNothing();
        readHowMany();
        readFirstSievesOnly();
        readDigitsOfANumber();
        readEveryDigit();
        readEndsTooEarly();
        readFirstWrongSign();
        readEverySign();
        readNoBlanks();
        readLowUpToHigh();
        readHighUpTo1000();
        readLaterBandThatMayNotBe();
        readNoSieve();
        readMostSigns();
        readRefusedKeepsBands();
        readRefusedKeepsWhatIsAtHand();
        readRefusedSignsAreGone();
        readTakenSignsAreGone();
        readTakenForgets();
        check.end();
    }

    private static void dueRead(GradingMixes x, String text, int want) {
        for (int i = 0; i < text.length(); i++) {
            check.due("unit of \"" + text + "\" at " + i, x.unit(text.charAt(i)), true);
        }
        check.due("read() of \"" + text + "\"", x.read(), want);
    }

    private static void unitSigns() {
        check.begin("promise 8: a sign of 32 .. 126");
        for (int sign = -3; sign <= 300; sign++) {
            GradingMixes x = new GradingMixes();
            check.due("unit(" + sign + ")", x.unit(sign), sign >= 32 && sign <= 126);
        }
        GradingMixes x = new GradingMixes();
        check.due("unit(MIN)", x.unit(Integer.MIN_VALUE), false);
        check.due("unit(MAX)", x.unit(Integer.MAX_VALUE), false);
        check.due("unit('1' + 256)", x.unit('1' + 256), false);
        check.due("unit('1' + 65536)", x.unit('1' + 65536), false);
    }

    private static void unitAtMost60() {
        check.begin("promise 8: at most 60");
        GradingMixes x = Samples.withSieves(6, 0, 1000);
        String bands = "0000-1000,0000-1000,0000-1000,0000-1000,0000-1000,0000-1000";
        for (int i = 0; i < 59; i++) {
            check.due("sign " + i, x.unit(bands.charAt(i)), true);
        }
        check.due("the sixtieth", x.unit(','), true);
        check.due("the sixty-first", x.unit('0'), false);
        check.due("once more", x.unit('x'), false);
        check.due("no more than 60 were read", x.read(), -61);
    }

    private static void unitRoomBehindRead() {
        check.begin("promise 8: there is room for 60 again behind read()");
        GradingMixes x = new GradingMixes();
        for (int round = 0; round < 3; round++) {
            for (int i = 0; i < 60; i++) {
                check.due("sign " + i + " of round " + round, x.unit('7'), true);
            }
            check.due("no room in round " + round, x.unit('7'), false);
            check.due("read()", x.read(), -1);
        }
    }

    private static void unitRefusedIsNotCollected() {
        check.begin("promise 8: a sign that is refused is not collected");
        GradingMixes x = Samples.withSieves(1, 0, 1000);
        check.due("unit('4')", x.unit('4'), true);
        check.due("unit(31)", x.unit(31), false);
        check.due("unit('-')", x.unit('-'), true);
        check.due("unit(127)", x.unit(127), false);
        check.due("unit('9')", x.unit('9'), true);
        check.due("read() of 4-9", x.read(), 1);
        Samples.dueBand(check, x, 0, 4, 9);
    }

    private static void readNothing() {
        check.begin("promise 9: nothing was collected");
        dueRead(new GradingMixes(), "", -1);
        dueRead(Samples.withSieves(1, 0, 1000), "", -1);
        dueRead(Samples.withSieves(6, 0, 1000), "", -1);
    }

    private static void readHowMany() {
        check.begin("promise 9: how many, from one to as many as there are sieves");
        for (int sieves = 1; sieves <= 6; sieves++) {
            StringBuilder text = new StringBuilder();
            for (int bands = 1; bands <= 6; bands++) {
                text.append(bands == 1 ? "" : ",").append(bands).append('-').append(bands + 10);
                GradingMixes x = Samples.withSieves(sieves, 500, 600);
                int behind = text.lastIndexOf(",") + 1;
                if (bands <= sieves) {
                    dueRead(x, text.toString(), bands);
                } else if (bands == sieves + 1) {
                    dueRead(x, text.toString(), -1 - behind);
                }
            }
        }
    }

    private static void readFirstSievesOnly() {
        check.begin("promise 9: the bands of the first sieves, no others");
        GradingMixes x = Samples.withSieves(6, 500, 600);
        dueRead(x, "1-2,30-40", 2);
        Samples.dueBand(check, x, 0, 1, 2);
        Samples.dueBand(check, x, 1, 30, 40);
        for (int i = 2; i < 6; i++) {
            Samples.dueBand(check, x, i, 500, 600);
        }
        dueRead(x, "11-12,13-14,15-16,17-18,19-20,21-22", 6);
        for (int i = 0; i < 6; i++) {
            Samples.dueBand(check, x, i, 11 + 2 * i, 12 + 2 * i);
        }
        check.due("no sieve came by it", x.count(0), 6);
    }

    private static void readDigitsOfANumber() {
        check.begin("promise 9: one to four digits");
        GradingMixes x = Samples.withSieves(2, 0, 1000);
        dueRead(x, "1-9", 1);
        Samples.dueBand(check, x, 0, 1, 9);
        dueRead(x, "01-09", 1);
        Samples.dueBand(check, x, 0, 1, 9);
        dueRead(x, "011-099", 1);
        Samples.dueBand(check, x, 0, 11, 99);
        dueRead(x, "0011-1000", 1);
        Samples.dueBand(check, x, 0, 11, 1000);
        dueRead(x, "0000-0000", 1);
        Samples.dueBand(check, x, 0, 0, 0);
        dueRead(x, "00011-99", -5);
        dueRead(x, "00000-99", -5);
        dueRead(x, "0-00099", -7);
        dueRead(x, "1-10000", -7);
        dueRead(x, "12345-1", -5);
        dueRead(x, "1-2,00001-2", -9);
        dueRead(x, "1-2,0-00099", -11);
        dueRead(x, "-9", -1);
        dueRead(x, "1-", -3);
        dueRead(x, "1-,", -3);
    }

    private static void readEveryDigit() {
        check.begin("promise 9: digits from 0 to 9, and what stands beside them");
        GradingMixes x = Samples.withSieves(1, 500, 500);
        for (int digit = 0; digit <= 9; digit++) {
            dueRead(x, digit + "-99" + digit, 1);
            Samples.dueBand(check, x, 0, digit, 990 + digit);
        }
        dueRead(x, "/-5", -1);
        dueRead(x, ":-5", -1);
        dueRead(x, "5-/", -3);
        dueRead(x, "5-:", -3);
    }

    private static void readEndsTooEarly() {
        check.begin("promise 9: if it ends too early, the one behind the last");
        String text = "12-345,0678-1000";
        GradingMixes x = Samples.withSieves(2, 0, 1000);
        for (int length = 0; length <= text.length(); length++) {
            String begun = text.substring(0, length);
            boolean oneBand = length >= 5 && length <= 6;
            boolean twoBands = length == 16;
            if (oneBand || twoBands) {
                dueRead(x, begun, oneBand ? 1 : 2);
            } else if (length == 4 || length >= 13 && length <= 15) {
                // The high of 3, 1, 10 or 100 lies below the low: no band that may be.
                dueRead(x, begun, length == 4 ? -1 : -8);
            } else {
                dueRead(x, begun, -1 - length);
            }
        }
    }

    private static void readFirstWrongSign() {
        check.begin("promise 9: the first sign that is wrong, from 0");
        GradingMixes x = Samples.withSieves(2, 0, 1000);
        dueRead(x, "x", -1);
        dueRead(x, "-1-2", -1);
        dueRead(x, ",1-2", -1);
        dueRead(x, "1x2", -2);
        dueRead(x, "1,2", -2);
        dueRead(x, "1-x", -3);
        dueRead(x, "1--2", -3);
        dueRead(x, "1-2x", -4);
        dueRead(x, "1-2-3", -4);
        dueRead(x, "1-2,x", -5);
        dueRead(x, "1-2,,3-4", -5);
        dueRead(x, "1-2,3", -6);
        dueRead(x, "1-2,3,4", -6);
        dueRead(x, "1-2,3-4x", -8);
        dueRead(x, "1x2y3z", -2);
        dueRead(x, "1-2,3-4", 2);
    }

    /** A digit, a - or a , in another's place can spell other bands: those are left to other tests. */
    private static void readEverySign() {
        check.begin("promise 9: each sign that no band has, in each place");
        String text = "1-23,4-567";
        for (int at = 0; at <= text.length(); at++) {
            for (char sign = 32; sign <= 126; sign++) {
                if ("0123456789-,".indexOf(sign) < 0) {
                    String spoilt = text.substring(0, at) + sign + text.substring(Math.min(text.length(), at + 1));
                    dueRead(Samples.withSieves(2, 0, 1000), spoilt, -1 - at);
                }
            }
        }
        dueRead(Samples.withSieves(2, 0, 1000), text, 2);
    }

    private static void readNoBlanks() {
        check.begin("promise 9: no blanks");
        GradingMixes x = Samples.withSieves(2, 0, 1000);
        dueRead(x, " 1-2,3-4", -1);
        dueRead(x, "1 -2,3-4", -2);
        dueRead(x, "1- 2,3-4", -3);
        dueRead(x, "1-2 ,3-4", -4);
        dueRead(x, "1-2, 3-4", -5);
        dueRead(x, "1-2,3-4 ", -8);
        dueRead(x, " ", -1);
        dueRead(x, "1-2,3-4", 2);
    }

    private static void readLowUpToHigh() {
        check.begin("promise 9: a band that may not be, low <= high");
        GradingMixes x = Samples.withSieves(2, 0, 1000);
        dueRead(x, "8-8", 1);
        Samples.dueBand(check, x, 0, 8, 8);
        dueRead(x, "9-8", -1);
        dueRead(x, "7-8", 1);
        dueRead(x, "1000-999", -1);
        dueRead(x, "1000-1000", 1);
        Samples.dueBand(check, x, 0, 1000, 1000);
        dueRead(x, "0-0", 1);
        Samples.dueBand(check, x, 0, 0, 0);
        dueRead(x, "1-0", -1);
    }

    private static void readHighUpTo1000() {
        check.begin("promise 9: a band that may not be, high <= 1000");
        GradingMixes x = Samples.withSieves(2, 0, 1000);
        dueRead(x, "5-1000", 1);
        Samples.dueBand(check, x, 0, 5, 1000);
        dueRead(x, "5-1001", -1);
        dueRead(x, "5-9999", -1);
        dueRead(x, "1001-1001", -1);
        dueRead(x, "9999-9999", -1);
        dueRead(x, "1001-5", -1);
    }

    private static void readLaterBandThatMayNotBe() {
        check.begin("promise 9: of a band that may not be, its first digit");
        GradingMixes x = Samples.withSieves(3, 0, 1000);
        dueRead(x, "1-2,9-8", -5);
        dueRead(x, "10-20,0009-0008", -7);
        dueRead(x, "10-20,5-1001", -7);
        dueRead(x, "10-20,30-40,0500-0499", -13);
        dueRead(x, "9-8,7-6", -1);
        dueRead(x, "9-8,x", -1);
        dueRead(x, "9-8x", -1);
        dueRead(x, "1-2,x,9-8", -5);
        dueRead(x, "10-20,30-40,0500-0500", 3);
    }

    private static void readNoSieve() {
        check.begin("promise 9: of a band for which there is no sieve, its first digit");
        dueRead(new GradingMixes(), "1-2", -1);
        dueRead(new GradingMixes(), "1", -1);
        dueRead(new GradingMixes(), "1-", -1);
        dueRead(Samples.withSieves(1, 0, 1000), "1-2", 1);
        dueRead(Samples.withSieves(1, 0, 1000), "1-2,30-40", -5);
        dueRead(Samples.withSieves(1, 0, 1000), "1-2,3", -5);
        dueRead(Samples.withSieves(1, 0, 1000), "1-2,3-", -5);
        dueRead(Samples.withSieves(1, 0, 1000), "1-2,40-30", -5);
        dueRead(Samples.withSieves(1, 0, 1000), "1-2,30-40x", -5);
        dueRead(Samples.withSieves(1, 0, 1000), "1-2,", -5);
        dueRead(Samples.withSieves(2, 0, 1000), "1-2,30-40", 2);
        dueRead(Samples.withSieves(5, 0, 1000), "1-2,1-2,1-2,1-2,1-2,1-2", -21);
        dueRead(Samples.withSieves(6, 0, 1000), "1-2,1-2,1-2,1-2,1-2,1-2", 6);
        dueRead(Samples.withSieves(6, 0, 1000), "1-2,1-2,1-2,1-2,1-2,1-2,1-2", -25);
        dueRead(Samples.withSieves(6, 0, 1000), "1-2,1-2,1-2,1-2,1-2,1-2,1-2,1-2,1-2", -25);
    }

    private static void readMostSigns() {
        check.begin("promise 9: the most signs");
        String bands = "0000-1000,0001-0999,0002-0998,0003-0997,0004-0996,0005-0995";
        GradingMixes x = Samples.withSieves(6, 7, 7);
        dueRead(x, bands, 6);
        for (int i = 0; i < 6; i++) {
            Samples.dueBand(check, x, i, i, 1000 - i);
        }
        dueRead(x, bands + ",", -61);
        dueRead(x, bands + "0", -60);
        dueRead(x, bands + "-", -60);
    }

    private static void readRefusedKeepsBands() {
        check.begin("promise 9: all bands stay then");
        String[] wrong = {"1-2,3-4,5-6,7-8", "1-2,3-4,5-6x", "1-2,3-4,5", "1-2,4-3", "1-2,", "1-2,3-1001", ""};
        for (String text : wrong) {
            GradingMixes x = Samples.withSieves(3, 500, 600);
            for (int i = 0; i < text.length(); i++) {
                x.unit(text.charAt(i));
            }
            check.due("read() of \"" + text + "\" is refused", x.read() < 0, true);
            for (int i = 0; i < 3; i++) {
                Samples.dueBand(check, x, i, 500, 600);
            }
        }
    }

    private static void readRefusedKeepsWhatIsAtHand() {
        check.begin("promise 9: what is at hand stays then");
        GradingMixes x = Samples.withOne(100, 900, 400, 10);
        x.run();
        x.batch(50);
        x.test(0, 99);
        dueRead(x, "0-1000,", -8);
        check.due("cost()", x.cost(), 700);
        check.due("share(0)", x.share(0), 100);
        check.due("told(0, 0)", x.told(0, 0), 40000);
        check.due("mass(0, false)", x.mass(0, false), 50);
        check.due("count(2)", x.count(2), 1);
        check.due("fired(0, 2)", x.fired(0, 2), 1);
        check.due("read() of nothing", x.read(), -1);
        check.due("cost() again", x.cost(), 700);
        check.due("count(2) again", x.count(2), 1);
    }

    private static void readRefusedSignsAreGone() {
        check.begin("promise 9: what was collected is gone all the same");
        GradingMixes x = Samples.withSieves(1, 0, 1000);
        dueRead(x, "1", -2);
        dueRead(x, "-2", -1);
        dueRead(x, "1-2x", -4);
        check.due("nothing is left", x.read(), -1);
        // A shorter text does not go on with the signs of the one before it.
        dueRead(x, "1-2x", -4);
        dueRead(x, "1", -2);
        dueRead(x, "1-2x", -4);
        dueRead(x, "1-", -3);
        dueRead(x, "1-2,", -5);
        dueRead(x, "3-4", 1);
        Samples.dueBand(check, x, 0, 3, 4);
    }

    private static void readTakenSignsAreGone() {
        check.begin("promise 9: what was collected becomes the bands, and is gone");
        GradingMixes x = Samples.withSieves(2, 0, 1000);
        dueRead(x, "1-2", 1);
        check.due("nothing is left", x.read(), -1);
        dueRead(x, ",3-4", -1);
        dueRead(x, "5-6", 1);
        Samples.dueBand(check, x, 0, 5, 6);
        Samples.dueBand(check, x, 1, 0, 1000);
    }

    private static void readTakenForgets() {
        check.begin("promises 2 and 9: if it is not refused, the mix at hand is gone, and all tests");
        GradingMixes x = Samples.withOne(100, 900, 400, 10);
        x.run();
        x.batch(50);
        x.test(0, 99);
        dueRead(x, "100-900", 1);
        check.due("cost()", x.cost(), BAD);
        check.due("share(0)", x.share(0), BAD);
        check.due("told(0, 0)", x.told(0, 0), BAD);
        check.due("batch(1)", x.batch(1), BAD);
        check.due("mass(0, false)", x.mass(0, false), BAD);
        check.due("count(2)", x.count(2), 0);
        check.due("count(3)", x.count(3), 0);
        check.due("fired(0, 2)", x.fired(0, 2), BAD);
    }
}
