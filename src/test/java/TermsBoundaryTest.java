import java.util.function.Supplier;

/** The sentences of the document's beginning and its 'Terms' that name a boundary case, a test for each. */
public final class TermsBoundaryTest {
    private static final int LARGE = Integer.MAX_VALUE;
    private static final int SMALL = Integer.MIN_VALUE;
    private static final Sentences DOC = new Sentences("boundary cases of the terms");

    private TermsBoundaryTest() {
    }

    /** A method that takes a piece. */
    private interface OfPiece {
        int call(DeadRuns row, int first, int many);
    }

    private static final String[] OF_PIECE_NAMES = {"erase", "write", "add", "kill", "revive", "turn", "move", "howMany"};
    private static final OfPiece[] OF_PIECE = {
        DeadRuns::erase,
        (row, first, many) -> row.write(first, many, 3),
        (row, first, many) -> row.add(first, many, 3),
        DeadRuns::kill,
        DeadRuns::revive,
        DeadRuns::turn,
        (row, first, many) -> row.move(first, many, 0),
        (row, first, many) -> row.howMany(first, many, 1),
    };

    public static void main(String[] args) {
        deadIsNoZero();
        calls();
        errorCodes();
        orderOfErrors();
        refusedCalls();
        refusedAtTheLimits();
        noneIsNoError();
        numberedFromZero();
        settings();
        mostSigns();
        signs();
        runs();
        mostRunsByInsert();
        mostRunsByValues();
        mostRunsByPlaces();
        fewerRunsBehindAnEdit();
        pieces();
        piecesOfEmptyAndFullRows();
        bitsOfRow();
        bitsOfSign();
        bitsByCode0();
        bitsByCode1();
        bitsByCode2();
        highestBitFirst();
        mostCharacters();
        grammar();
        signsOfTexts();
        numbersOfTexts();
        alikeRunsOfTexts();
        faultsOfCharacters();
        faultsOfEnds();
        toldAsTexts();
        nothingChangesByWhatIf();
        DOC.end();
    }

    private static void deadIsNoZero() {
        DOC.says("What it is", "dead spots, which read as zeros but are none");
        DeadRuns row = Pads.loaded("1;x*2;0");
        DOC.due("sign(1)", row.sign(1), 10);
        DOC.due("count(1)", row.count(1), 3);
        DOC.due("count(2)", row.count(2), 2);
        DOC.due("count(5)", row.count(5), 1);
        DOC.due("howMany(0, 4, 0)", row.howMany(0, 4, 0), 1);
        DOC.due("find(0, 10)", row.find(0, 10), -6);
        DOC.due("longestLive(1)", row.longestLive(1), 1);
        DOC.due("unlikeMirror()", Pads.loaded("0;x").unlikeMirror(), 2);
        DOC.due("revive(1, 2)", row.revive(1, 2), 2);
        DOC.due("find(0, 1000)", row.find(0, 1000), 0);
    }

    private static void calls() {
        DOC.says("What it is", "An object is used for at most 512 calls after it has been made; what later calls answer is free.");
        DeadRuns changed = new DeadRuns();
        int wrong = 0;
        for (int i = 1; i < 512; i++) {
            wrong += changed.insert(i - 1, 7, 1) == i ? 0 : 1;
        }
        DOC.due("511 times insert(.., 7, 1), wrong ones", wrong, 0);
        DOC.due("undo() as the 512th call", changed.undo(), 5);
        DeadRuns refused = new DeadRuns();
        for (int i = 0; i < 511; i++) {
            wrong += refused.erase(i, 1) == -1 ? 0 : 1;
        }
        DOC.due("511 times erase(i, 1), wrong ones", wrong, 0);
        DOC.due("insert(0, 9, 3000) as the 512th call", refused.insert(0, 9, 3000), 3000);
        DeadRuns saved = new DeadRuns();
        saved.insert(0, 4, 5);
        for (int i = 0; i < 255; i++) {
            wrong += saved.save(i % 2) == 5 && saved.restore(i % 2) == 5 ? 0 : 1;
        }
        DOC.due("255 times save and restore, wrong ones", wrong, 0);
        DOC.due("find(0, 44444) as the 512th call", saved.find(0, 44444), 0);
    }

    private static void errorCodes() {
        DOC.says("Conventions", "A method that fails returns one of the error codes NO_SUCH (-1), BAD_VALUE (-2), BAD_TEXT (-3), "
            + "TOO_MANY (-4) and NOT_POSSIBLE (-5)");
        DeadRuns row = new DeadRuns();
        DOC.due("sign(0)", row.sign(0), DeadRuns.NO_SUCH);
        DOC.due("sign(0)", row.sign(0), -1);
        DOC.due("set(2, 0)", row.set(2, 0), DeadRuns.BAD_VALUE);
        DOC.due("set(2, 0)", row.set(2, 0), -2);
        DOC.due("load()", row.load(), DeadRuns.BAD_TEXT);
        DOC.due("load()", row.load(), -3);
        DOC.due("undo()", row.undo(), DeadRuns.NOT_POSSIBLE);
        DOC.due("undo()", row.undo(), -5);
        row.insert(0, 1, 3000);
        DOC.due("insert(0, 1, 1)", row.insert(0, 1, 1), DeadRuns.TOO_MANY);
        DOC.due("insert(0, 1, 1)", row.insert(0, 1, 1), -4);
    }

    private static void orderOfErrors() {
        DOC.says("Conventions", "it names its errors in the order in which they are checked, and the first one that applies is returned");
        DeadRuns full = Pads.loaded("1*1500;2*1500");
        DOC.due("insert(3001, 11, 0): no place, no sign, none", full.insert(3001, 11, 0), -1);
        DOC.due("insert(-1, 1, 3000): no place, too many", full.insert(-1, 1, 3000), -1);
        DOC.due("insert(0, 11, 1): no sign, too many", full.insert(0, 11, 1), -2);
        DOC.due("insert(0, 1, 3001): out of range, too many", full.insert(0, 1, 3001), -2);
        DeadRuns dead = Pads.loaded("x*3");
        DOC.due("erase(0, 4): no piece, not possible", dead.erase(0, 4), -1);
        DOC.due("write(0, 4, 10): no piece, no value", dead.write(0, 4, 10), -1);
        DOC.due("add(3, 1, 0): no piece, out of range", dead.add(3, 1, 0), -1);
        DOC.due("move(0, 0, -1): no piece, out of range", dead.move(0, 0, -1), -1);
        DOC.due("howMany(0, 4, 11): no piece, no sign", dead.howMany(0, 4, 11), -1);
        DOC.due("ofRun(1, 4): no run, out of range", dead.ofRun(1, 4), -1);
        DOC.due("restore(2): no slot, nothing saved", dead.restore(2), -2);
        DeadRuns runs = Pads.onesAndTwos(50);
        runs.insert(0, 1, 2);
        DOC.due("write(1, 1, 10): no value, too many", runs.write(1, 1, 10), -2);
        DOC.due("add(1, 1, 10): out of range, too many", runs.add(1, 1, 10), -2);
        DOC.due("move(51, 1, 52): out of range, too many", runs.move(51, 1, 52), -2);
        DeadRuns pad = new DeadRuns();
        Pads.putAll(pad, "1*3000;1;");
        DOC.due("load(): a fault, too many", pad.load(), -3);
        Pads.putAll(pad, "1;".repeat(35) + "1");
        DOC.due("count(7)", pad.count(7), 80);
        DOC.due("put(32): no such character, too many", pad.put(32), -2);
        DOC.due("put(0): no character, too many", pad.put(0), -2);
    }

    /** A row with both kinds of signs, with settings, slots, a pad and a history of its own. */
    private static DeadRuns lived() {
        DeadRuns row = new DeadRuns();
        row.insert(0, 1, 3);
        row.save(0);
        row.insert(3, DeadRuns.DEAD, 2);
        row.set(DeadRuns.CODE, 2);
        row.insert(5, 2, 3);
        row.insert(0, 0, 1);
        Pads.putAll(row, "4*2;x;");
        return row;
    }

    private static DeadRuns livedWithText() {
        DeadRuns row = lived();
        row.wipe();
        Pads.putAll(row, "1*3000;x");
        return row;
    }

    private static void refusedCalls() {
        DOC.says("Conventions", "A call that returns an error changes nothing.");
        Supplier<DeadRuns> made = TermsBoundaryTest::lived;
        DOC.dueRefused("set(2, 0)", made, row -> row.set(2, 0), -2);
        DOC.dueRefused("set(0, 3)", made, row -> row.set(0, 3), -2);
        DOC.dueRefused("insert(10, 1, 1)", made, row -> row.insert(10, 1, 1), -1);
        DOC.dueRefused("insert(1, 11, 1)", made, row -> row.insert(1, 11, 1), -2);
        DOC.dueRefused("insert(1, 1, 3000)", made, row -> row.insert(1, 1, 3000), -4);
        for (int i = 0; i < OF_PIECE.length; i++) {
            OfPiece method = OF_PIECE[i];
            DOC.dueRefused(OF_PIECE_NAMES[i] + "(2, 8, ..)", made, row -> method.call(row, 2, 8), -1);
        }
        DOC.dueRefused("erase(3, 2)", made, row -> row.erase(3, 2), -5);
        DOC.dueRefused("write(0, 9, 10)", made, row -> row.write(0, 9, 10), -2);
        DOC.dueRefused("add(0, 9, 10)", made, row -> row.add(0, 9, 10), -2);
        DOC.dueRefused("move(0, 3, 7)", made, row -> row.move(0, 3, 7), -2);
        DOC.dueRefused("sign(9)", made, row -> row.sign(9), -1);
        DOC.dueRefused("ofRun(4, 0)", made, row -> row.ofRun(4, 0), -1);
        DOC.dueRefused("ofRun(0, 4)", made, row -> row.ofRun(0, 4), -2);
        DOC.dueRefused("count(11)", made, row -> row.count(11), -2);
        DOC.dueRefused("howMany(0, 9, 11)", made, row -> row.howMany(0, 9, 11), -2);
        DOC.dueRefused("bit(-1)", made, row -> row.bit(-1), -1);
        DOC.dueRefused("character(-1)", made, row -> row.character(-1), -1);
        DOC.dueRefused("size(3)", made, row -> row.size(3), -2);
        DOC.dueRefused("longestLive(2)", made, row -> row.longestLive(2), -2);
        DOC.dueRefused("find(-1, 1)", made, row -> row.find(-1, 1), -2);
        DOC.dueRefused("bestWrite(3)", made, row -> row.bestWrite(3), -2);
        DOC.dueRefused("put(32)", made, row -> row.put(32), -2);
        DOC.dueRefused("put('1 1')", made, row -> row.put(0x312031), -2);
        DOC.dueRefused("load()", made, DeadRuns::load, -3);
        DOC.dueRefused("save(2)", made, row -> row.save(2), -2);
        DOC.dueRefused("restore(2)", made, row -> row.restore(2), -2);
        DOC.dueRefused("restore(1)", made, row -> row.restore(1), -5);
        DOC.dueRefused("load() of 3001 signs", TermsBoundaryTest::livedWithText, DeadRuns::load, -4);
        DOC.dueRefused("undo()", DeadRuns::new, DeadRuns::undo, -5);
    }

    private static void refusedAtTheLimits() {
        DOC.says("Conventions, at the limits", "A call that returns an error changes nothing.");
        Supplier<DeadRuns> runs = () -> {
            DeadRuns row = Pads.onesAndTwos(48);
            row.insert(48, 10, 3);
            row.insert(51, 0, 3);
            row.save(1);
            return row;
        };
        DOC.dueRefused("insert(54, 1, 1)", runs, row -> row.insert(54, 1, 1), -4);
        DOC.dueRefused("write(52, 1, 1)", runs, row -> row.write(52, 1, 1), -4);
        DOC.dueRefused("add(53, 1, 1)", runs, row -> row.add(53, 1, 1), -4);
        DOC.dueRefused("kill(52, 1)", runs, row -> row.kill(52, 1), -4);
        DOC.dueRefused("revive(49, 1)", runs, row -> row.revive(49, 1), -4);
        DOC.dueRefused("turn(47, 6)", runs, row -> row.turn(47, 6), -4);
        DOC.dueRefused("move(52, 1, 0)", runs, row -> row.move(52, 1, 0), -4);
        Supplier<DeadRuns> full = () -> {
            DeadRuns row = Pads.loaded("7*3000");
            Pads.putAll(row, "x".repeat(80));
            return row;
        };
        DOC.dueRefused("insert(3000, 7, 1)", full, row -> row.insert(3000, 7, 1), -4);
        DOC.dueRefused("put('1')", full, row -> row.put('1'), -4);
        DOC.dueRefused("load()", full, DeadRuns::load, -3);
    }

    private static void noneIsNoError() {
        DOC.says("Conventions", "NONE (-6) is not an error; it is returned only if no error applies.");
        DeadRuns row = new DeadRuns();
        DOC.due("NONE", DeadRuns.NONE, -6);
        DOC.due("longestLive(0)", row.longestLive(0), -6);
        DOC.due("longestLive(2)", row.longestLive(2), -2);
        DOC.due("longestLive(-1)", row.longestLive(-1), -2);
        DOC.due("find(0, 1)", row.find(0, 1), -6);
        DOC.due("find(-1, 1)", row.find(-1, 1), -2);
        DOC.due("find(0, 0)", row.find(0, 0), -2);
        DOC.due("find(0, 1000000000)", row.find(0, 1000000000), -2);
        DOC.due("bestWrite(0)", row.bestWrite(0), -6);
        DOC.due("bestWrite(3)", row.bestWrite(3), -2);
        DOC.due("bestWrite(-1)", row.bestWrite(-1), -2);
    }

    private static void numberedFromZero() {
        DOC.says("Conventions", "Everything is numbered from 0.");
        DeadRuns row = Pads.loaded("5;4");
        DOC.due("sign(0)", row.sign(0), 5);
        DOC.due("ofRun(0, 0)", row.ofRun(0, 0), 5);
        DOC.due("ofRun(0, 1)", row.ofRun(0, 1), 0);
        DOC.due("ofRun(1, 1)", row.ofRun(1, 1), 1);
        DOC.due("character(0)", row.character(0), '5');
        DOC.due("bit(0)", Pads.loaded("x").bit(0), 1);
        DOC.due("find(0, 5)", row.find(0, 5), 0);
        DOC.due("longestLive(0)", row.longestLive(0), 0);
        DOC.due("bestWrite(0)", row.bestWrite(0), 0);
        DOC.due("howMany(0, 1, 5)", row.howMany(0, 1, 5), 1);
        DOC.due("save(0)", row.save(0), 2);
        row.put(';');
        DOC.due("fault()", row.fault(), 0);
        DOC.due("move(1, 1, 0)", row.move(1, 1, 0), 2);
        DOC.due("insert(0, 9, 1)", row.insert(0, 9, 1), 3);
        DOC.dueRow(row, "9;4;5");
    }

    private static void settings() {
        DOC.says("Settings", "(In parentheses: range; first value.) CODE (0 to 2; 0). SAVE_DEAD (0 or 1; 1).");
        DeadRuns row = new DeadRuns();
        DOC.due("CODE, first", row.count(9), 0);
        DOC.due("SAVE_DEAD, first", row.count(10), 1);
        DOC.due("set(CODE, -1)", row.set(0, -1), -2);
        DOC.due("set(CODE, 3)", row.set(0, 3), -2);
        DOC.due("set(CODE, 2)", row.set(0, 2), 0);
        DOC.due("set(CODE, 1)", row.set(0, 1), 2);
        DOC.due("set(CODE, 0)", row.set(0, 0), 1);
        DOC.due("set(SAVE_DEAD, -1)", row.set(1, -1), -2);
        DOC.due("set(SAVE_DEAD, 2)", row.set(1, 2), -2);
        DOC.due("set(SAVE_DEAD, 0)", row.set(1, 0), 1);
        DOC.due("set(SAVE_DEAD, 1)", row.set(1, 1), 0);
    }

    private static void mostSigns() {
        DOC.says("Row", "The row has at most 3000 signs.");
        DeadRuns row = new DeadRuns();
        DOC.due("insert(0, 1, 3000)", row.insert(0, 1, 3000), 3000);
        DOC.due("insert(3000, 1, 1)", row.insert(3000, 1, 1), -4);
        DOC.due("insert(0, 2, 1)", row.insert(0, 2, 1), -4);
        DOC.due("erase(5, 1)", row.erase(5, 1), 2999);
        DOC.due("insert(1500, 2, 2)", row.insert(1500, 2, 2), -4);
        DOC.due("insert(1500, 2, 3000)", row.insert(1500, 2, 3000), -4);
        DOC.due("insert(1500, 2, 1)", row.insert(1500, 2, 1), 3000);
        DOC.due("insert(1500, 2, 1)", row.insert(1500, 2, 1), -4);
        DOC.due("sign(2999)", row.sign(2999), 1);
        DOC.due("sign(3000)", row.sign(3000), -1);
        DOC.due("kill(0, 3000)", row.kill(0, 3000), 3000);
        DOC.due("count(0)", row.count(0), 3000);
        Pads.putAll(row, "0*1500;1*1501");
        DOC.due("load() of 3001 signs", row.load(), -4);
        row.wipe();
        Pads.putAll(row, "0*1500;1*1500");
        DOC.due("load() of 3000 signs", row.load(), 2);
    }

    private static void signs() {
        DOC.says("Row", "A sign is live, with a value from 0 to 9, or dead.");
        DeadRuns row = new DeadRuns();
        for (int sign = 0; sign <= 10; sign++) {
            DOC.due("insert at the end, " + sign, row.insert(sign, sign, 1), sign + 1);
            DOC.due("sign(" + sign + ")", row.sign(sign), sign);
        }
        DOC.due("insert(0, -1, 1)", row.insert(0, -1, 1), -2);
        DOC.due("insert(0, 11, 1)", row.insert(0, 11, 1), -2);
        DOC.due("howMany(0, 11, 0): a dead sign is no 0", row.howMany(0, 11, 0), 1);
        DOC.due("count(2)", row.count(2), 1);
    }

    private static void runs() {
        DOC.says("Row", "A run is a greatest stretch of signs that are alike (live with the same value, or dead).");
        DeadRuns row = Pads.loaded("0*2;x*2;0");
        DOC.due("count(1), 0 beside dead", row.count(1), 3);
        DOC.due("insert(2, 0, 1), joins with those before", row.insert(2, 0, 1), 6);
        DOC.due("insert(3, 10, 1), joins with those behind", row.insert(3, 10, 1), 7);
        DOC.due("insert(4, 10, 1), joins within", row.insert(4, 10, 1), 8);
        DOC.dueRow(row, "0*3;x*4;0");
        DOC.due("revive(3, 4), joins on both sides", row.revive(3, 4), 4);
        DOC.dueRow(row, "0*8");
        DOC.due("kill(0, 1)", row.kill(0, 1), 1);
        DOC.due("kill(2, 1)", row.kill(2, 1), 1);
        DOC.due("kill(1, 1), joins on both sides", row.kill(1, 1), 1);
        DOC.dueRow(row, "x*3;0*5");
        DOC.due("write(4, 2, 5)", row.write(4, 2, 5), 2);
        DOC.due("add(3, 1, 5), joins with those behind", row.add(3, 1, 5), 1);
        DOC.due("write(6, 2, 5), joins with those before", row.write(6, 2, 5), 2);
        DOC.dueRow(row, "x*3;5*5");
        DOC.due("insert(1, 5, 1)", row.insert(1, 5, 1), 9);
        DOC.due("erase(1, 1), behind which both sides join", row.erase(1, 1), 8);
        DOC.dueRow(row, "x*3;5*5");
        DOC.due("move(3, 5, 1)", row.move(3, 5, 1), 3);
        DOC.due("move(0, 1, 5), joins", row.move(0, 1, 5), 2);
        DOC.dueRow(row, "5*5;x*3");
        row.insert(8, 5, 2);
        row.set(1, 0);
        DOC.due("turn(3, 5), joins", row.turn(3, 5), 3);
        DOC.dueRow(row, "5*3;x*3;5*4");
    }

    private static void mostRunsByInsert() {
        DOC.says("Row, insert", "There are at most 50 runs; an edit behind which there would be more signs or more runs returns TOO_MANY.");
        DeadRuns row = Pads.onesAndTwos(49);
        DOC.due("insert(49, 2, 1), as the 50th run", row.insert(49, 2, 1), 50);
        DOC.due("insert(50, 1, 1), as the 51st run", row.insert(50, 1, 1), -4);
        DOC.due("insert(0, 10, 1), as the 51st run", row.insert(0, 10, 1), -4);
        DOC.due("insert(25, 3, 1), as the 51st run", row.insert(25, 3, 1), -4);
        DOC.due("count(1)", row.count(1), 50);
        DOC.due("insert(25, 1, 2), joins", row.insert(25, 1, 2), 52);
        DOC.due("insert(26, 2, 1), splits into 52", row.insert(26, 2, 1), -4);
        DOC.due("insert(0, 1, 2949), too many signs", row.insert(0, 1, 2949), -4);
        DOC.due("insert(0, 1, 2948), just not", row.insert(0, 1, 2948), 3000);
        DOC.due("insert(0, 3, 1), too many signs and runs", row.insert(0, 3, 1), -4);
        DeadRuns split = Pads.onesAndTwos(48);
        split.insert(0, 1, 1);
        DOC.due("insert(1, 3, 1), splits into 50", split.insert(1, 3, 1), 50);
        DeadRuns splitOf49 = Pads.onesAndTwos(49);
        splitOf49.insert(0, 1, 1);
        DOC.due("insert(1, 3, 1), splits into 51", splitOf49.insert(1, 3, 1), -4);
    }

    /** 50 runs, the first of which has three signs; the signs are 1 and 2 by turns. */
    private static DeadRuns fiftyRuns() {
        DeadRuns row = Pads.onesAndTwos(50);
        row.insert(0, 1, 2);
        return row;
    }

    private static void mostRunsByValues() {
        DOC.says("Row, write, add, kill, revive",
            "There are at most 50 runs; an edit behind which there would be more signs or more runs returns TOO_MANY.");
        DeadRuns row = fiftyRuns();
        DOC.due("write(1, 1, 5), 52 runs", row.write(1, 1, 5), -4);
        DOC.due("write(0, 1, 5), 51 runs", row.write(0, 1, 5), -4);
        DOC.due("add(1, 1, 4), 52 runs", row.add(1, 1, 4), -4);
        DOC.due("add(0, 2, 4), 51 runs", row.add(0, 2, 4), -4);
        DOC.due("kill(1, 1), 52 runs", row.kill(1, 1), -4);
        DOC.due("kill(0, 2), 51 runs", row.kill(0, 2), -4);
        DOC.due("kill(0, 3), 50 runs", row.kill(0, 3), 3);
        DOC.due("revive(1, 1), 52 runs", row.revive(1, 1), -4);
        DOC.due("revive(1, 2), 51 runs", row.revive(1, 2), -4);
        DOC.due("revive(0, 3), 50 runs", row.revive(0, 3), 3);
        DOC.due("write(0, 3, 7), 50 runs", row.write(0, 3, 7), 3);
        DOC.due("add(0, 3, 1), 50 runs", row.add(0, 3, 1), 3);
        DOC.due("count(1)", row.count(1), 50);
    }

    private static void mostRunsByPlaces() {
        DOC.says("Row, turn, move",
            "There are at most 50 runs; an edit behind which there would be more signs or more runs returns TOO_MANY.");
        DeadRuns row = fiftyRuns();
        DOC.due("turn(1, 51), 51 runs", row.turn(1, 51), -4);
        DOC.due("turn(0, 52), 50 runs", row.turn(0, 52), 50);
        DOC.due("turn(0, 52), 50 runs", row.turn(0, 52), 50);
        DOC.due("move(51, 1, 1), 51 runs", row.move(51, 1, 1), -4);
        DOC.due("move(3, 2, 1), 50 runs", row.move(3, 2, 1), 50);
        DOC.dueRow(row, "1;2;1*3" + ";2;1".repeat(23) + ";2");
        DOC.due("move(0, 1, 3), 49 runs", row.move(0, 1, 3), 49);
        DOC.due("turn(0, 52), 49 runs", row.turn(0, 52), 49);
    }

    private static void fewerRunsBehindAnEdit() {
        DOC.says("Row, what counts is behind the edit",
            "There are at most 50 runs; an edit behind which there would be more signs or more runs returns TOO_MANY.");
        DeadRuns row = fiftyRuns();
        DOC.due("write(2, 1, 2), split, but joined", row.write(2, 1, 2), 1);
        DOC.due("count(1)", row.count(1), 50);
        DOC.due("add(1, 1, 1), split, but joined", row.add(1, 1, 1), 1);
        DOC.due("count(1)", row.count(1), 50);
        DOC.dueRow(row, "1;2*3" + ";1;2".repeat(24));
        DOC.due("move(1, 1, 51), split, but joined", row.move(1, 1, 51), 50);
        DOC.dueRow(row, "1;2*2" + ";1;2".repeat(23) + ";1;2*2");
        row.set(1, 0);
        DOC.due("erase(0, 1)", row.erase(0, 1), 51);
        DOC.due("turn(1, 49), 49 runs", row.turn(1, 49), 49);
        DOC.due("kill(0, 51)", row.kill(0, 51), 51);
        DOC.due("count(1)", row.count(1), 1);
    }

    private static void pieces() {
        DOC.says("Row", "A piece of the row is told by its first place and its length, which is at least 1 and ends in the row.");
        int[][] pieces = {{0, 1}, {0, 5}, {4, 1}, {3, 2}, {1, 4}, {2, 2}};
        int[][] none = {{0, 0}, {2, 0}, {4, 0}, {5, 0}, {0, -1}, {4, -1}, {5, -5}, {0, SMALL}, {4, SMALL}, {0, 6}, {4, 2}, {3, 3}, {1, 5},
            {5, 1}, {6, 1}, {6, -1}, {-1, 1}, {-1, 2}, {-1, 6}, {-5, 5}, {LARGE, 1}, {SMALL, 1}, {0, LARGE}, {1, LARGE}, {4, LARGE},
            {-1, LARGE}, {LARGE, LARGE}, {SMALL, LARGE}, {SMALL, SMALL}, {LARGE, SMALL}, {LARGE, -1}, {SMALL, -1}};
        for (int i = 0; i < OF_PIECE.length; i++) {
            for (int[] piece : pieces) {
                DeadRuns row = Pads.loaded("1*2;2*3");
                DOC.due(OF_PIECE_NAMES[i] + "(" + piece[0] + ", " + piece[1] + ", ..) fails",
                    OF_PIECE[i].call(row, piece[0], piece[1]) < 0 ? 1 : 0, 0);
            }
            for (int[] piece : none) {
                DeadRuns row = Pads.loaded("1*2;2*3");
                DOC.due(OF_PIECE_NAMES[i] + "(" + piece[0] + ", " + piece[1] + ", ..)", OF_PIECE[i].call(row, piece[0], piece[1]), -1);
            }
        }
    }

    private static void piecesOfEmptyAndFullRows() {
        DOC.says("Row, empty and full",
            "A piece of the row is told by its first place and its length, which is at least 1 and ends in the row.");
        for (int i = 0; i < OF_PIECE.length; i++) {
            String name = OF_PIECE_NAMES[i];
            OfPiece method = OF_PIECE[i];
            DOC.due(name + "(0, 1, ..), empty", method.call(new DeadRuns(), 0, 1), -1);
            DOC.due(name + "(0, 0, ..), empty", method.call(new DeadRuns(), 0, 0), -1);
            DOC.due(name + "(-1, 1, ..), empty", method.call(new DeadRuns(), -1, 1), -1);
            for (int[] piece : new int[][] {{0, 3000}, {2999, 1}, {2990, 10}}) {
                DeadRuns row = Pads.loaded("1*1500;2*1500");
                DOC.due(name + "(" + piece[0] + ", " + piece[1] + ", ..) fails", method.call(row, piece[0], piece[1]) < 0 ? 1 : 0, 0);
            }
            for (int[] piece : new int[][] {{0, 3001}, {2999, 2}, {2990, 11}, {3000, 1}, {3000, 0}}) {
                DeadRuns row = Pads.loaded("1*1500;2*1500");
                DOC.due(name + "(" + piece[0] + ", " + piece[1] + ", ..)", method.call(row, piece[0], piece[1]), -1);
            }
        }
    }

    private static void bitsOfRow() {
        DOC.says("Codes", "The row as bits is its runs, one after the other.");
        DOC.due("the bits of an empty row", Pads.bits(new DeadRuns()), "");
        DeadRuns row = Pads.loaded("x;0*2;9");
        DOC.due("the bits", Pads.bits(row), "1" + "000000000001" + "00000" + "000000000010" + "01001" + "000000000001");
        DOC.due("count(3)", row.count(3), 13 + 17 + 17);
        DOC.due("bit(46)", row.bit(46), 1);
        DOC.due("bit(47)", row.bit(47), -1);
    }

    private static void bitsOfSign() {
        DOC.says("Codes", "A run is: the bit 1 if it is dead, otherwise the bit 0 and its value as 4 bits; then its length n, by CODE");
        String[] values = {"0000", "0001", "0010", "0011", "0100", "0101", "0110", "0111", "1000", "1001"};
        for (int value = 0; value <= 9; value++) {
            DeadRuns row = Pads.loaded(value + "");
            row.set(0, 1);
            DOC.due("the bits of " + value, Pads.bits(row), "0" + values[value] + "1");
        }
        DeadRuns dead = Pads.loaded("x");
        dead.set(0, 1);
        DOC.due("the bits of x", Pads.bits(dead), "1" + "1");
    }

    private static void dueLength(int code, int length, String bits) {
        DeadRuns row = Pads.loaded("x*" + length);
        row.set(0, code);
        DOC.due("the bits of x*" + length + " by " + code, Pads.bits(row), "1" + bits);
        DOC.due("size(" + code + ")", row.size(code), 1 + bits.length());
        DOC.due("count(3)", row.count(3), 1 + bits.length());
        DOC.due("ofRun(0, 3)", row.ofRun(0, 3), 1 + bits.length());
        DOC.due("bit behind the last", row.bit(1 + bits.length()), -1);
    }

    private static void bitsByCode0() {
        DOC.says("Codes", "0: n as 12 bits.");
        dueLength(0, 1, "000000000001");
        dueLength(0, 2, "000000000010");
        dueLength(0, 2047, "011111111111");
        dueLength(0, 2048, "100000000000");
        dueLength(0, 3000, "101110111000");
    }

    private static void bitsByCode1() {
        DOC.says("Codes", "1: with k as the number of bits of n without zeros in front: k - 1 bits 0, then n as k bits.");
        dueLength(1, 1, "1");
        dueLength(1, 2, "0" + "10");
        dueLength(1, 3, "0" + "11");
        dueLength(1, 4, "00" + "100");
        dueLength(1, 7, "00" + "111");
        dueLength(1, 8, "000" + "1000");
        dueLength(1, 1023, "000000000" + "1111111111");
        dueLength(1, 1024, "0000000000" + "10000000000");
        dueLength(1, 2047, "0000000000" + "11111111111");
        dueLength(1, 2048, "00000000000" + "100000000000");
        dueLength(1, 3000, "00000000000" + "101110111000");
    }

    private static void bitsByCode2() {
        DOC.says("Codes", "2: with k as the number of bits of n without zeros in front, and j as that of k: j - 1 bits 0, then k as j bits, "
            + "then n without its first bit as k - 1 bits.");
        dueLength(2, 1, "1");
        dueLength(2, 2, "0" + "10" + "0");
        dueLength(2, 3, "0" + "10" + "1");
        dueLength(2, 4, "0" + "11" + "00");
        dueLength(2, 7, "0" + "11" + "11");
        dueLength(2, 8, "00" + "100" + "000");
        dueLength(2, 15, "00" + "100" + "111");
        dueLength(2, 16, "00" + "101" + "0000");
        dueLength(2, 127, "00" + "111" + "111111");
        dueLength(2, 128, "000" + "1000" + "0000000");
        dueLength(2, 2047, "000" + "1011" + "1111111111");
        dueLength(2, 2048, "000" + "1100" + "00000000000");
        dueLength(2, 3000, "000" + "1100" + "01110111000");
    }

    private static void highestBitFirst() {
        DOC.says("Codes", "Numbers are told from their highest bit on.");
        DOC.due("8 of 1 sign by 0", Pads.bits(Pads.loaded("8")), "0" + "1000" + "000000000001");
        DOC.due("1 of 2048 signs by 0", Pads.bits(Pads.loaded("1*2048")), "0" + "0001" + "100000000000");
        DeadRuns row = Pads.loaded("2*6");
        row.set(0, 1);
        DOC.due("2 of 6 signs by 1", Pads.bits(row), "0" + "0010" + "00" + "110");
        row.set(0, 2);
        DOC.due("2 of 6 signs by 2", Pads.bits(row), "0" + "0010" + "0" + "11" + "10");
    }

    private static void mostCharacters() {
        DOC.says("Texts", "The pad is a text of at most 80 characters");
        DeadRuns row = new DeadRuns();
        Pads.putAll(row, "1;2;3;4;".repeat(9));
        DOC.due("count(7)", row.count(7), 72);
        DOC.due("put of 7", row.put(Pads.packed("1;2;3;4")), 79);
        DOC.due("put of 2, 81 in all", row.put(Pads.packed(";x")), -4);
        DOC.due("put of 1, 80 in all", row.put(Pads.packed("*")), 80);
        DOC.due("put of 1, 81 in all", row.put(Pads.packed("1")), -4);
        DOC.due("count(7)", row.count(7), 80);
        DOC.due("fault()", row.fault(), 80);
        DeadRuns whole = new DeadRuns();
        Pads.putAll(whole, "1;2;3;4;".repeat(9) + "1;2;3*12");
        DOC.due("load() of 80 characters", whole.load(), 39);
        DOC.due("count(0)", whole.count(0), 50);
    }

    private static void dueFault(String text, int want) {
        DeadRuns row = new DeadRuns();
        Pads.putAll(row, text);
        DOC.due("fault() of '" + text + "'", row.fault(), want);
        if (want == -6) {
            DOC.due("load() of '" + text + "' fails", row.load() < 0 ? 1 : 0, 0);
        } else {
            DOC.due("load() of '" + text + "'", row.load(), -3);
        }
    }

    private static void grammar() {
        DOC.says("Texts", "row = run { \";\" run }");
        dueFault("1", -6);
        dueFault("1;2", -6);
        dueFault("1;2;x", -6);
        dueFault(";", 0);
        dueFault(";1", 0);
        dueFault("1;;2", 2);
        dueFault("12", 1);
        dueFault("xx", 1);
        dueFault("1x", 1);
        dueFault("1,2", 1);
        DOC.says("Texts", "run = sign [ \"*\" number ]");
        dueFault("1*2", -6);
        dueFault("x*2;1", -6);
        dueFault("*2", 0);
        dueFault("1**2", 2);
        dueFault("1*2*3", 3);
        dueFault("1*;", 2);
        dueFault("1*x", 2);
        dueFault("1*2x", 3);
    }

    private static void signsOfTexts() {
        DOC.says("Texts", "A sign is a digit, or \"x\" for dead.");
        DeadRuns row = new DeadRuns();
        for (int value = 0; value <= 9; value++) {
            row.put('0' + value);
            DOC.due("load() of " + value, row.load(), 1);
            DOC.due("sign(0)", row.sign(0), value);
        }
        row.put('x');
        DOC.due("load() of x", row.load(), 1);
        DOC.due("sign(0)", row.sign(0), 10);
        for (char other : "/:Xwy!~-+aA".toCharArray()) {
            dueFault(Character.toString(other), 0);
            dueFault("1;" + other, 2);
        }
    }

    private static void numbersOfTexts() {
        DOC.says("Texts", "A number is 1 to 3000, without leading zeros; without it the run has one sign.");
        for (int number : new int[] {1, 2, 9, 10, 99, 100, 999, 1000, 2999, 3000}) {
            DeadRuns row = Pads.loaded("7*" + number);
            DOC.due("count(0) of 7*" + number, row.count(0), number);
        }
        DOC.due("count(0) of 7", Pads.loaded("7").count(0), 1);
        dueFault("7*0", 2);
        dueFault("7*01", 2);
        dueFault("7*00", 2);
        dueFault("7*3001", 5);
        dueFault("7*-1", 2);
        dueFault("7*+1", 2);
        dueFault("7*/", 2);
        dueFault("7*:", 2);
        dueFault("7*1:", 3);
    }

    private static void alikeRunsOfTexts() {
        DOC.says("Texts", "(Runs that are side by side in the text may be alike; they are joined.)");
        DeadRuns row = new DeadRuns();
        Pads.putAll(row, "1;1*2;x;x*3;x;0;2*4;2");
        DOC.due("load()", row.load(), 4);
        DOC.dueRow(row, "1*3;x*5;0;2*5");
        Pads.putAll(row, "5*1500;5*1500");
        DOC.due("load() of 3000 alike", row.load(), 1);
        DOC.dueRow(row, "5*3000");
        Pads.putAll(row, "5*1500;5*1501");
        DOC.due("load() of 3001 alike", row.load(), -4);
    }

    private static void faultsOfCharacters() {
        DOC.says("Texts", "The fault is the index of the first character that cannot stand at its place when the text is read from left "
            + "to right (also of a digit by which a number would be above 3000)");
        dueFault("a;b", 0);
        dueFault("1;b;c", 2);
        dueFault("1*3000", -6);
        dueFault("1*3001", 5);
        dueFault("1*3010", 5);
        dueFault("1*3100", 5);
        dueFault("1*4000", 5);
        dueFault("1*9999", 5);
        dueFault("1*30000", 6);
        dueFault("1*10000", 6);
        dueFault("1*4294967297", 5);
        dueFault("1*300;2*3001;a", 11);
        dueFault("1*3001a", 5);
        dueFault("1;".repeat(39) + "1a", 79);
        dueFault("1;".repeat(39) + ";1", 78);
    }

    private static void faultsOfEnds() {
        DOC.says("Texts", "if there is none and the text ends too early (also if it is empty), it is the length of the text.");
        dueFault("", 0);
        dueFault("1;", 2);
        dueFault("1*", 2);
        dueFault("1*3000;", 7);
        dueFault("x;x*", 4);
        dueFault("1;".repeat(40), 80);
        dueFault("1;".repeat(39) + "1*", 80);
    }

    private static void toldAsTexts() {
        DOC.says("Texts", "The row is told as a text in the same way, with its runs as they are; a run of one sign is told without \"*\" and "
            + "number, and an empty row is an empty text.");
        DeadRuns row = new DeadRuns();
        DOC.dueRow(row, "");
        DOC.due("count(4)", row.count(4), 0);
        DOC.due("character(0)", row.character(0), -1);
        String text = "0;x;9*2;x*9;1*10;2*99;3*100;4*999;5*1000;6";
        DOC.dueRow(Pads.loaded(text), text);
        DOC.due("count(4)", Pads.loaded(text).count(4), text.length());
        DOC.dueRow(Pads.loaded("x*3000"), "x*3000");
        DOC.due("count(4)", Pads.loaded("x*3000").count(4), 6);
        DOC.dueRow(Pads.loaded("1*1;2*1;2"), "1;2*2");
        DOC.due("count(4) of 50 runs", Pads.onesAndTwos(50).count(4), 99);
    }

    private static void nothingChangesByWhatIf() {
        DOC.says("Terms", "what if; nothing changes");
        Supplier<DeadRuns> made = TermsBoundaryTest::lived;
        DOC.dueUnchanged("size(1)", made, row -> row.size(1));
        DOC.dueUnchanged("bestCode()", made, DeadRuns::bestCode);
        DOC.dueUnchanged("longestLive(1)", made, row -> row.longestLive(1));
        DOC.dueUnchanged("find(0, 11)", made, row -> row.find(0, 11));
        DOC.dueUnchanged("bestWrite(2)", made, row -> row.bestWrite(2));
        DOC.dueUnchanged("unlikeMirror()", made, DeadRuns::unlikeMirror);
    }
}
