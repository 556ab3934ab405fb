/** The sentences of promises 11 to 22, what there is and what if, that name a boundary case, a test for each. */
public final class AnswersBoundaryTest {
    private static final int LARGE = Integer.MAX_VALUE;
    private static final int SMALL = Integer.MIN_VALUE;
    private static final int[] FAR = {LARGE, LARGE - 1, SMALL, SMALL + 1, -1, -2};
    private static final Sentences DOC = new Sentences("boundary cases of promises 11 to 22");

    private AnswersBoundaryTest() {
    }

    public static void main(String[] args) {
        signReturns();
        ofRunWhat();
        ofRunReturns();
        countWhat();
        countReturns();
        howManySign();
        howManyPiece();
        howManyReturns();
        bitByCode();
        bitAt();
        bitReturns();
        characterOfText();
        characterAt();
        characterReturns();
        sizeByCodes();
        sizeCode();
        sizeReturns();
        bestCodeOfSeveral();
        longestLiveStretch();
        longestLiveWhat();
        longestLiveReturns();
        findFrom();
        findPattern();
        findReturns();
        findOverRuns();
        bestWriteMost();
        bestWriteOfSeveral();
        bestWriteByCode();
        bestWriteWhat();
        bestWriteReturns();
        unlikeMirrorPlaces();
        unlikeMirrorReturns();
        nothingOfLongerRows();
        DOC.end();
    }

    private static void signReturns() {
        DOC.says("Promise 11", "Returns 0 to 9, or DEAD; NO_SUCH if there is no such place.");
        DeadRuns row = Pads.loaded("0;9;x*2;5*2");
        int[] signs = {0, 9, 10, 10, 5, 5};
        for (int at = 0; at < signs.length; at++) {
            DOC.due("sign(" + at + ")", row.sign(at), signs[at]);
        }
        DOC.due("sign(6)", row.sign(6), -1);
        for (int at : FAR) {
            DOC.due("sign(" + at + ")", row.sign(at), -1);
            DOC.due("sign(" + at + ") of an empty row", new DeadRuns().sign(at), -1);
        }
        DOC.due("sign(0) of an empty row", new DeadRuns().sign(0), -1);
        DeadRuns full = Pads.loaded("1;x*2998;2");
        DOC.due("sign(2998)", full.sign(2998), 10);
        DOC.due("sign(2999)", full.sign(2999), 2);
        DOC.due("sign(3000)", full.sign(3000), -1);
        DeadRuns runs = Pads.onesAndTwos(50);
        DOC.due("sign(49) of 50 runs", runs.sign(49), 2);
        DOC.due("sign(50) of 50 runs", runs.sign(50), -1);
    }

    private static void ofRunWhat() {
        DOC.says("Promise 12", "`what`: 0 its sign (0 to 9, or DEAD), 1 its first place, 2 its length, 3 the bits that it takes by CODE");
        DeadRuns row = Pads.loaded("0*4;x*2995;9");
        int[][] want = {{0, 0, 4, 17}, {10, 4, 2995, 13}, {9, 2999, 1, 17}};
        int[][] bits = {{17, 13, 17}, {10, 24, 6}, {10, 19, 6}};
        for (int run = 0; run < 3; run++) {
            for (int what = 0; what <= 3; what++) {
                DOC.due("ofRun(" + run + ", " + what + ")", row.ofRun(run, what), want[run][what]);
            }
        }
        for (int code = 0; code <= 2; code++) {
            row.set(0, code);
            for (int run = 0; run < 3; run++) {
                DOC.due("ofRun(" + run + ", 3) by " + code, row.ofRun(run, 3), bits[code][run]);
            }
        }
    }

    private static void ofRunReturns() {
        DOC.says("Promise 12", "Returns the number; NO_SUCH if there is no such run; BAD_VALUE if what is out of range.");
        DeadRuns row = Pads.loaded("1;x");
        for (int what = 0; what <= 3; what++) {
            DOC.due("ofRun(2, " + what + ")", row.ofRun(2, what), -1);
            DOC.due("ofRun(0, " + what + ") of an empty row", new DeadRuns().ofRun(0, what), -1);
            for (int run : FAR) {
                DOC.due("ofRun(" + run + ", " + what + ")", row.ofRun(run, what), -1);
            }
        }
        DOC.due("ofRun(0, 4)", row.ofRun(0, 4), -2);
        DOC.due("ofRun(1, 4)", row.ofRun(1, 4), -2);
        for (int what : FAR) {
            DOC.due("ofRun(1, " + what + ")", row.ofRun(1, what), -2);
        }
        DeadRuns runs = Pads.onesAndTwos(50);
        DOC.due("ofRun(49, 0)", runs.ofRun(49, 0), 2);
        DOC.due("ofRun(49, 1)", runs.ofRun(49, 1), 49);
        DOC.due("ofRun(50, 0)", runs.ofRun(50, 0), -1);
    }

    private static void dueCounts(String name, DeadRuns row, int... want) {
        for (int what = 0; what <= 10; what++) {
            DOC.due("count(" + what + ") of " + name, row.count(what), want[what]);
        }
    }

    private static void countWhat() {
        DOC.says("Promise 13", "`what`: 0 the length of the row, 1 runs, 2 dead signs, 3 the bits of the row by CODE, 4 the length of the row "
            + "as a text, 5 the sum of all live values, 6 the length of the longest run (0 if there is none), 7 the length of the pad, "
            + "8 how many changes can be undone, 9, 10 the settings");
        dueCounts("an empty row", new DeadRuns(), 0, 0, 0, 0, 0, 0, 0, 0, 0, 0, 1);
        dueCounts("all dead", Pads.loaded("x*3000"), 3000, 1, 3000, 13, 6, 0, 3000, 0, 1, 0, 1);
        dueCounts("all nines", Pads.loaded("9*3000"), 3000, 1, 0, 17, 6, 27000, 3000, 0, 1, 0, 1);
        dueCounts("50 runs", Pads.onesAndTwos(50), 50, 50, 0, 850, 99, 75, 1, 0, 6, 0, 1);
        DeadRuns row = Pads.loaded("x*3;1*2;0*3;9");
        row.set(0, 2);
        row.set(1, 0);
        Pads.putAll(row, "#".repeat(80));
        dueCounts("several", row, 9, 4, 3, 5 + 9 + 9 + 6, 13, 11, 3, 80, 3, 2, 0);
        row.erase(0, 9);
        dueCounts("none again", row, 0, 0, 0, 0, 0, 0, 0, 80, 4, 2, 0);
    }

    private static void countReturns() {
        DOC.says("Promise 13", "Returns the number; BAD_VALUE if what is out of range.");
        DeadRuns row = Pads.loaded("1;x");
        DOC.due("count(0)", row.count(0), 2);
        DOC.due("count(10)", row.count(10), 1);
        DOC.due("count(11)", row.count(11), -2);
        for (int what : FAR) {
            DOC.due("count(" + what + ")", row.count(what), -2);
            DOC.due("count(" + what + ") of an empty row", new DeadRuns().count(what), -2);
        }
    }

    private static void howManySign() {
        DOC.says("Promise 14", "`sign`: 0 to 9, or DEAD");
        DeadRuns row = Pads.loaded("0;1;2;3;4;5;6;7;8;9;x;x");
        for (int sign = 0; sign <= 9; sign++) {
            DOC.due("howMany(0, 12, " + sign + ")", row.howMany(0, 12, sign), 1);
        }
        DOC.due("howMany(0, 12, 10)", row.howMany(0, 12, 10), 2);
        DOC.due("howMany(0, 12, 11)", row.howMany(0, 12, 11), -2);
        for (int sign : FAR) {
            DOC.due("howMany(0, 12, " + sign + ")", row.howMany(0, 12, sign), -2);
        }
    }

    private static void howManyPiece() {
        DOC.says("Promise 14", "Counts the signs of a piece that are alike to a sign.");
        DeadRuns row = Pads.loaded("0*2;x*3;0*4;7");
        DOC.due("howMany(0, 10, 0): no dead ones", row.howMany(0, 10, 0), 6);
        DOC.due("howMany(2, 3, 0)", row.howMany(2, 3, 0), 0);
        DOC.due("howMany(1, 1, 0)", row.howMany(1, 1, 0), 1);
        DOC.due("howMany(1, 5, 0)", row.howMany(1, 5, 0), 2);
        DOC.due("howMany(1, 2, 10)", row.howMany(1, 2, 10), 1);
        DOC.due("howMany(4, 2, 10)", row.howMany(4, 2, 10), 1);
        DOC.due("howMany(8, 2, 7)", row.howMany(8, 2, 7), 1);
        DOC.due("howMany(0, 9, 7)", row.howMany(0, 9, 7), 0);
        DOC.due("howMany(0, 3000, 10)", Pads.loaded("x*3000").howMany(0, 3000, 10), 3000);
    }

    private static void howManyReturns() {
        DOC.says("Promise 14", "Returns how many; NO_SUCH if there is no such piece; BAD_VALUE if sign is out of range.");
        DeadRuns row = Pads.loaded("3*5");
        DOC.due("howMany(0, 5, 3)", row.howMany(0, 5, 3), 5);
        DOC.due("howMany(0, 6, 3)", row.howMany(0, 6, 3), -1);
        DOC.due("howMany(5, 1, 3)", row.howMany(5, 1, 3), -1);
        DOC.due("howMany(0, 0, 3)", row.howMany(0, 0, 3), -1);
        DOC.due("howMany(0, 5, 11)", row.howMany(0, 5, 11), -2);
        DOC.due("howMany(0, 6, 11)", row.howMany(0, 6, 11), -1);
        DOC.due("howMany(0, 1, 3) of an empty row", new DeadRuns().howMany(0, 1, 3), -1);
    }

    private static void bitByCode() {
        DOC.says("Promise 15", "Returns a bit of the row as bits, by CODE.");
        DeadRuns row = Pads.loaded("x*3000");
        int[] last = {12, 23, 18};
        for (int code = 0; code <= 2; code++) {
            row.set(0, code);
            DOC.due("bit(0)", row.bit(0), 1);
            DOC.due("bit at the last place", row.bit(last[code]), 0);
            DOC.due("bit behind the last place", row.bit(last[code] + 1), -1);
        }
    }

    private static void bitAt() {
        DOC.says("Promise 15", "`at`: 0 and on");
        DeadRuns row = Pads.loaded("9;x");
        DOC.due("bit(0)", row.bit(0), 0);
        DOC.due("bit(-1)", row.bit(-1), -1);
        for (int at : FAR) {
            DOC.due("bit(" + at + ")", row.bit(at), -1);
            DOC.due("bit(" + at + ") of an empty row", new DeadRuns().bit(at), -1);
        }
    }

    private static void bitReturns() {
        DOC.says("Promise 15", "Returns 0 or 1; NO_SUCH if there is no such bit.");
        DeadRuns row = Pads.loaded("9;x");
        DOC.due("bit(0)", row.bit(0), 0);
        DOC.due("bit(1)", row.bit(1), 1);
        DOC.due("bit(16), the last one of the first run", row.bit(16), 1);
        DOC.due("bit(17), the first one of the second run", row.bit(17), 1);
        DOC.due("bit(18)", row.bit(18), 0);
        DOC.due("bit(29), the last one", row.bit(29), 1);
        DOC.due("bit(30)", row.bit(30), -1);
        DOC.due("bit(0) of an empty row", new DeadRuns().bit(0), -1);
        DeadRuns runs = Pads.onesAndTwos(50);
        DOC.due("bit(849) of 50 runs", runs.bit(849), 1);
        DOC.due("bit(850) of 50 runs", runs.bit(850), -1);
    }

    private static void characterOfText() {
        DOC.says("Promise 16", "Returns a character of the row as a text.");
        DeadRuns row = Pads.loaded("x*3000");
        String text = "x*3000";
        for (int at = 0; at < text.length(); at++) {
            DOC.due("character(" + at + ")", row.character(at), text.charAt(at));
        }
        DOC.due("character(6)", row.character(6), -1);
        DeadRuns one = Pads.loaded("0");
        DOC.due("character(0)", one.character(0), 48);
        DOC.due("character(1)", one.character(1), -1);
    }

    private static void characterAt() {
        DOC.says("Promise 16", "`at`: 0 and on");
        DeadRuns row = Pads.loaded("0;9*2;x");
        DOC.due("character(0)", row.character(0), 48);
        DOC.due("character(-1)", row.character(-1), -1);
        for (int at : FAR) {
            DOC.due("character(" + at + ")", row.character(at), -1);
            DOC.due("character(" + at + ") of an empty row", new DeadRuns().character(at), -1);
        }
    }

    private static void characterReturns() {
        DOC.says("Promise 16", "Returns the code of the character; NO_SUCH if there is no such character.");
        DeadRuns row = Pads.loaded("0;9*2;x");
        int[] codes = {48, 59, 57, 42, 50, 59, 120};
        for (int at = 0; at < codes.length; at++) {
            DOC.due("character(" + at + ")", row.character(at), codes[at]);
        }
        DOC.due("character(7): no ';' behind the last run", row.character(7), -1);
        DOC.due("character(0) of an empty row", new DeadRuns().character(0), -1);
        DeadRuns runs = Pads.onesAndTwos(50);
        DOC.due("character(98) of 50 runs", runs.character(98), 50);
        DOC.due("character(99) of 50 runs", runs.character(99), -1);
    }

    private static void sizeByCodes() {
        DOC.says("Promise 17", "Returns the bits that the row would take by a code.");
        for (int code = 0; code <= 2; code++) {
            DOC.due("size(" + code + ") of an empty row", new DeadRuns().size(code), 0);
            DOC.due("size(" + code + ") of 1", Pads.loaded("1").size(code), new int[] {17, 6, 6}[code]);
            DOC.due("size(" + code + ") of x*3000", Pads.loaded("x*3000").size(code), new int[] {13, 24, 19}[code]);
            DOC.due("size(" + code + ") of 50 runs", Pads.onesAndTwos(50).size(code), new int[] {850, 300, 300}[code]);
        }
        DeadRuns row = Pads.loaded("x*3000");
        row.set(0, 1);
        DOC.due("size(0), whatever CODE is", row.size(0), 13);
        DOC.due("size(2), whatever CODE is", row.size(2), 19);
        DOC.due("count(9)", row.count(9), 1);
    }

    private static void sizeCode() {
        DOC.says("Promise 17", "`code`: 0 to 2");
        DeadRuns row = Pads.loaded("x*2");
        int[] want = {-2, 13, 4, 5, -2};
        for (int code = -1; code <= 3; code++) {
            DOC.due("size(" + code + ")", row.size(code), want[code + 1]);
        }
    }

    private static void sizeReturns() {
        DOC.says("Promise 17", "Returns the bits; BAD_VALUE if code is out of range.");
        DeadRuns row = Pads.loaded("1");
        DOC.due("size(3)", row.size(3), -2);
        DOC.due("size(3) of an empty row", new DeadRuns().size(3), -2);
        for (int code : FAR) {
            DOC.due("size(" + code + ")", row.size(code), -2);
        }
    }

    private static void dueBestCode(String text, int bits0, int bits1, int bits2, int best) {
        DeadRuns row = Pads.loaded(text);
        DOC.due("size(0) of " + text, row.size(0), bits0);
        DOC.due("size(1) of " + text, row.size(1), bits1);
        DOC.due("size(2) of " + text, row.size(2), bits2);
        for (int code = 0; code <= 2; code++) {
            row.set(0, code);
            DOC.due("bestCode() of " + text + ", CODE " + code, row.bestCode(), best);
        }
    }

    private static void bestCodeOfSeveral() {
        DOC.says("Promise 18", "Returns the code by which the row takes the fewest bits, of several the lowest one.");
        dueBestCode("", 0, 0, 0, 0);
        dueBestCode("x", 13, 2, 2, 1);
        dueBestCode("x*2", 13, 4, 5, 1);
        dueBestCode("x*4", 13, 6, 6, 1);
        dueBestCode("x*32", 13, 12, 11, 2);
        dueBestCode("x*127", 13, 14, 12, 2);
        dueBestCode("x*128", 13, 16, 15, 0);
        dueBestCode("x*128;1*128;x*128;1*16;x*16", 5 * 12 + 13, 5 * 12 + 3 + 13, 5 * 12 + 13, 0);
        dueBestCode("x*3000", 13, 24, 19, 0);
    }

    private static void dueLongestLive(String text, int first, int length) {
        DeadRuns row = Pads.loaded(text);
        DOC.due("longestLive(0) of " + text, row.longestLive(0), first);
        DOC.due("longestLive(1) of " + text, row.longestLive(1), length);
    }

    private static void longestLiveStretch() {
        DOC.says("Promise 19", "Finds the longest stretch of live signs.");
        dueLongestLive("1;2;x;3*2;4", 3, 3);
        dueLongestLive("x;1;2;0;x*9;3*2", 1, 3);
        dueLongestLive("1*3000", 0, 3000);
        dueLongestLive("x*2999;0", 2999, 1);
        dueLongestLive("0;x*2999", 0, 1);
        dueLongestLive("x*4;5;6;x", 4, 2);
        dueLongestLive("0;1;2;3", 0, 4);
        DOC.due("longestLive(0) of 50 runs", Pads.onesAndTwos(50).longestLive(0), 0);
        DOC.due("longestLive(1) of 50 runs", Pads.onesAndTwos(50).longestLive(1), 50);
    }

    private static void longestLiveWhat() {
        DOC.says("Promise 19", "`what`: 0 its first place (of several the first one), 1 its length");
        dueLongestLive("1;2;x;3*2;x;4*2", 0, 2);
        dueLongestLive("x;1;x;2;x;3", 1, 1);
        dueLongestLive("1;x;2*2;x;3;4", 2, 2);
    }

    private static void longestLiveReturns() {
        DOC.says("Promise 19", "Returns the number; BAD_VALUE if what is neither 0 nor 1; NONE if there is no live sign.");
        dueLongestLive("x*3000", -6, -6);
        dueLongestLive("x", -6, -6);
        dueLongestLive("", -6, -6);
        dueLongestLive("0", 0, 1);
        DeadRuns row = Pads.loaded("1;2");
        DOC.due("longestLive(2)", row.longestLive(2), -2);
        for (int what : FAR) {
            DOC.due("longestLive(" + what + ")", row.longestLive(what), -2);
            DOC.due("longestLive(" + what + ") of an empty row", new DeadRuns().longestLive(what), -2);
        }
    }

    private static void dueFind(String text, int from, int pattern, int want) {
        DOC.due("find(" + from + ", " + pattern + ") in '" + text + "'", Pads.loaded(text).find(from, pattern), want);
    }

    private static void findFrom() {
        DOC.says("Promise 20", "`from`: 0 and on");
        dueFind("1;2;1;2", 0, 12, 0);
        dueFind("1;2;1;2", 1, 12, 2);
        dueFind("1;2;1;2", 2, 12, 2);
        dueFind("1;2;1;2", 3, 12, -6);
        dueFind("1;2;1;2", 3, 2, 3);
        dueFind("1;2;1;2", 4, 2, -6);
        dueFind("1;2;1;2", LARGE, 2, -6);
        dueFind("1;2;1;2", -1, 12, -2);
        dueFind("1;2;1;2", SMALL, 12, -2);
        dueFind("1*3000", 2999, 1, 2999);
        dueFind("1*3000", 3000, 1, -6);
        dueFind("1*3000", 2998, 11, 2998);
        dueFind("1*3000", 2999, 11, -6);
        dueFind("1*3000", 2991, 111111111, 2991);
        dueFind("1*3000", 2992, 111111111, -6);
    }

    private static void findPattern() {
        DOC.says("Promise 20", "`pattern`: a number of decimal digits, told from the first one on; a 0 in front does not count, so the first "
            + "digit is 1 to 9");
        dueFind("2;1;0;1;2", 0, 12, 3);
        dueFind("2;1;0;1;2", 0, 21, 0);
        dueFind("0;1;2", 0, 12, 1);
        dueFind("0*5;1", 0, 1, 5);
        dueFind("1;0*8", 0, 100000000, 0);
        dueFind("1;0*7", 0, 100000000, -6);
        dueFind("1;0;1", 0, 101, 0);
        dueFind("9*9", 0, 999999999, 0);
        dueFind("9*8", 0, 999999999, -6);
        dueFind("1;2;3;4;5;6;7;8;9", 0, 123456789, 0);
    }

    private static void findReturns() {
        DOC.says("Promise 20", "Returns the place; BAD_VALUE if from is below 0, or pattern is not 1 to 999999999; NONE if there is none (a "
            + "dead sign is none of the digits).");
        dueFind("1;2", 0, 1, 0);
        dueFind("1;2", 0, 0, -2);
        dueFind("1;2", 0, -1, -2);
        dueFind("1;2", 0, SMALL, -2);
        dueFind("1;2", 0, 999999999, -6);
        dueFind("1;2", 0, 1000000000, -2);
        dueFind("1;2", 0, LARGE, -2);
        dueFind("1;2", LARGE, 0, -2);
        dueFind("", 0, 1, -6);
        dueFind("", 5, 1, -6);
        dueFind("", -1, 1, -2);
        dueFind("1;x", 0, 10, -6);
        dueFind("x*3000", 0, 1, -6);
        dueFind("1;x;2", 0, 12, -6);
        dueFind("1;x;2", 0, 102, -6);
        dueFind("1;x;2", 0, 110, -6);
    }

    private static void findOverRuns() {
        DOC.says("Promise 20, from one run to the next", "Finds the first place, from a place on, at which a pattern begins.");
        dueFind("1*5;2*5", 0, 12, 4);
        dueFind("1*5;2*5", 0, 1122, 3);
        dueFind("1*5;2*5", 0, 111112222, 0);
        dueFind("1*5;2*5", 1, 111112222, -6);
        dueFind("1*5;2*5", 1, 111122222, 1);
        dueFind("1*5;2*5", 4, 12, 4);
        dueFind("1*5;2*5", 5, 12, -6);
        dueFind("1*2;2;1*3;2", 0, 1112, 3);
        dueFind("7*2000;1;7*999", 2001, 7, 2001);
        dueFind("7*2000;1;7*999", 1, 7177, 1999);
        DeadRuns runs = Pads.onesAndTwos(50);
        DOC.due("find(41, 212121212) in 50 runs", runs.find(41, 212121212), 41);
        DOC.due("find(42, 212121212) in 50 runs", runs.find(42, 212121212), -6);
        DOC.due("find(0, 3) in 50 runs", runs.find(0, 3), -6);
    }

    private static void dueBestWrite(DeadRuns row, int run, int value, int saved) {
        DOC.due("bestWrite(0)", row.bestWrite(0), run);
        DOC.due("bestWrite(1)", row.bestWrite(1), value);
        DOC.due("bestWrite(2)", row.bestWrite(2), saved);
    }

    private static DeadRuns byCode(int code, String text) {
        DeadRuns row = Pads.loaded(text);
        row.set(0, code);
        return row;
    }

    private static void bestWriteMost() {
        DOC.says("Promise 21, the most", "Finds the run of live signs which, if it was written with another value, would save the most bits by "
            + "CODE");
        dueBestWrite(Pads.loaded("1;2;3;2;x"), 2, 2, 34);
        dueBestWrite(Pads.loaded("1;x;1"), -6, -6, -6);
        dueBestWrite(Pads.loaded("x;0;x"), -6, -6, -6);
        dueBestWrite(Pads.loaded("0;x;1;2"), 2, 2, 17);
        dueBestWrite(Pads.loaded("1*1500;2*1500"), 0, 2, 17);
        // By 2: 1 and 1 to 2 saves 6 + 6 - 9, 3 and 3 to 6 saves 9 + 9 - 10.
        dueBestWrite(byCode(2, "1;2;x;3*3;4*3"), 3, 4, 8);
        // By 1: 1 and 1 to 2 saves 6 + 6 - 8; 1, 1 and 1 to 3 saves 18 - 8.
        dueBestWrite(byCode(1, "x;5;6;x;7;8;7"), 5, 7, 10);
        // By 1: 64, 1 and 2 to 67: 18 + 6 + 8 - 18; the same turned round.
        dueBestWrite(byCode(1, "4*64;5;4*2"), 1, 4, 14);
        dueBestWrite(byCode(1, "4*2;5;4*64"), 1, 4, 14);
    }

    private static void bestWriteOfSeveral() {
        DOC.says("Promise 21, of several", "of several the first run, then the least value.");
        dueBestWrite(Pads.loaded("9;8"), 0, 8, 17);
        dueBestWrite(Pads.loaded("x;9;8;9;8;x"), 2, 9, 34);
        dueBestWrite(Pads.loaded("x;1;x;3;4"), 3, 4, 17);
        dueBestWrite(Pads.onesAndTwos(50), 1, 1, 34);
        // 6 and 2 to 8 and 2 and 1 to 3 save 6 each, whichever run of a pair is written: the first one then.
        dueBestWrite(byCode(1, "0*6;1*2;2"), 0, 1, 6);
        // 8 and 4 to 12 save 12 + 10 - 12 on both sides of the middle run.
        dueBestWrite(byCode(1, "7*8;5*4;3*8"), 0, 5, 10);
        // 1 and 63 to 64 save 6 + 16 - 18.
        dueBestWrite(byCode(1, "7;5*63;3"), 0, 5, 4);
        dueBestWrite(byCode(1, "x;7;5*63;3"), 1, 5, 4);
    }

    private static void bestWriteByCode() {
        DOC.says("Promise 21, by CODE", "would save the most bits by CODE");
        String text = "1*2;2*2;x;3*64;4*64";
        dueBestWrite(byCode(0, text), 0, 2, 17);
        // 2 and 2 to 4: 8 + 8 - 10; 64 and 64 to 128: 18 + 18 - 20.
        dueBestWrite(byCode(1, text), 3, 4, 16);
        // 2 and 2 to 4: 9 + 9 - 10; 64 and 64 to 128: 16 + 16 - 19.
        dueBestWrite(byCode(2, text), 3, 4, 13);
    }

    private static void bestWriteWhat() {
        DOC.says("Promise 21", "`what`: 0 the run, 1 the value, 2 how many bits are saved");
        DeadRuns row = Pads.loaded("x;8;0;x");
        int[] want = {-2, 1, 0, 17, -2};
        for (int what = -1; what <= 3; what++) {
            DOC.due("bestWrite(" + what + ")", row.bestWrite(what), want[what + 1]);
        }
    }

    private static void bestWriteReturns() {
        DOC.says("Promise 21", "Returns the number; BAD_VALUE if what is out of range; NONE if no bits can be saved so.");
        dueBestWrite(new DeadRuns(), -6, -6, -6);
        dueBestWrite(Pads.loaded("5"), -6, -6, -6);
        dueBestWrite(Pads.loaded("5*3000"), -6, -6, -6);
        dueBestWrite(Pads.loaded("x*3000"), -6, -6, -6);
        dueBestWrite(Pads.loaded("0;x"), -6, -6, -6);
        dueBestWrite(Pads.loaded("x;0;x;0;x"), -6, -6, -6);
        dueBestWrite(Pads.loaded("0;1"), 0, 1, 17);
        DeadRuns row = Pads.loaded("1;2");
        DOC.due("bestWrite(3)", row.bestWrite(3), -2);
        DOC.due("bestWrite(3) of an empty row", new DeadRuns().bestWrite(3), -2);
        for (int what : FAR) {
            DOC.due("bestWrite(" + what + ")", row.bestWrite(what), -2);
            DOC.due("bestWrite(" + what + ") of an empty row", new DeadRuns().bestWrite(what), -2);
        }
    }

    private static void dueUnlike(String text, int want) {
        DOC.due("unlikeMirror() of '" + text + "'", Pads.loaded(text).unlikeMirror(), want);
    }

    private static void unlikeMirrorPlaces() {
        DOC.says("Promise 22", "Counts the places at which the row differs from itself turned round.");
        dueUnlike("", 0);
        dueUnlike("1", 0);
        dueUnlike("x", 0);
        dueUnlike("1*3000", 0);
        dueUnlike("1;2;1", 0);
        dueUnlike("1;x;1", 0);
        dueUnlike("0;x", 2);
        dueUnlike("x;1;0", 2);
        DeadRuns row = Pads.loaded("x;1;2");
        DOC.due("set(SAVE_DEAD, 0)", row.set(1, 0), 1);
        DOC.due("unlikeMirror(), whatever SAVE_DEAD is", row.unlikeMirror(), 2);
        row.set(1, 1);
        DOC.due("unlikeMirror(), whatever SAVE_DEAD is", row.unlikeMirror(), 2);
    }

    private static void unlikeMirrorReturns() {
        DOC.says("Promise 22", "Returns how many places (both of each pair).");
        dueUnlike("1;2", 2);
        dueUnlike("1;2;3", 2);
        dueUnlike("1;2;3;4", 4);
        dueUnlike("1*1500;x*1500", 3000);
        dueUnlike("1*1500;2;x*1499", 3000);
        dueUnlike("1*1499;2;x*1500", 3000);
        dueUnlike("1*1499;2;x*1499", 2998);
        DOC.due("unlikeMirror() of 50 runs", Pads.onesAndTwos(50).unlikeMirror(), 50);
        DOC.due("unlikeMirror() of 49 runs", Pads.onesAndTwos(49).unlikeMirror(), 0);
    }

    /** A row in an object in which, as often as a history can hold it, a row of 50 runs stood before. */
    private static DeadRuns behindFiftyRuns(String text) {
        DeadRuns row = Pads.onesAndTwos(50);
        for (int i = 0; i < 10; i++) {
            row.set(0, 0);
        }
        if (text.isEmpty()) {
            row.erase(0, 50);
        } else {
            Pads.putAll(row, text);
            row.load();
        }
        return row;
    }

    private static void nothingOfLongerRows() {
        DOC.says("Promise 26, behind longer rows", "in place of the one that there is");
        for (String text : new String[] {"", "3", "x", "2", "1", "1;2", "1;2;1", "5*2;x;7"}) {
            DeadRuns row = behindFiftyRuns(text);
            DeadRuns fresh = Pads.loaded(text);
            int length = fresh.count(0);
            int runs = fresh.count(1);
            for (int what = 0; what <= 6; what++) {
                DOC.due("count(" + what + ") of '" + text + "'", row.count(what), fresh.count(what));
            }
            for (int at = length; at <= 52; at++) {
                DOC.due("sign(" + at + ") of '" + text + "'", row.sign(at), -1);
            }
            for (int what = 0; what <= 3; what++) {
                DOC.due("ofRun(" + runs + ", " + what + ") of '" + text + "'", row.ofRun(runs, what), -1);
            }
            DOC.due("bit(count(3)) of '" + text + "'", row.bit(fresh.count(3)), -1);
            DOC.due("character(count(4)) of '" + text + "'", row.character(fresh.count(4)), -1);
            for (int pattern : new int[] {1, 2, 11, 12, 21, 22, 31, 32, 71, 72, 121, 1212, 212121212}) {
                DOC.due("find(0, " + pattern + ") in '" + text + "'", row.find(0, pattern), fresh.find(0, pattern));
            }
            for (int what = 0; what <= 2; what++) {
                DOC.due("longestLive(" + what + ") of '" + text + "'", row.longestLive(what), fresh.longestLive(what));
                DOC.due("bestWrite(" + what + ") of '" + text + "'", row.bestWrite(what), fresh.bestWrite(what));
                DOC.due("size(" + what + ") of '" + text + "'", row.size(what), fresh.size(what));
            }
            DOC.due("bestCode() of '" + text + "'", row.bestCode(), fresh.bestCode());
            DOC.due("unlikeMirror() of '" + text + "'", row.unlikeMirror(), fresh.unlikeMirror());
            DOC.dueRow(row, text);
        }
    }
}
