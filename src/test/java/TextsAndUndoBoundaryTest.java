import java.util.function.Supplier;
import java.util.function.ToIntFunction;

/** The sentences of promises 23 to 29, texts, undo and saving, that name a boundary case, a test for each. */
public final class TextsAndUndoBoundaryTest {
    private static final int LARGE = Integer.MAX_VALUE;
    private static final int SMALL = Integer.MIN_VALUE;
    private static final int[] NO_SLOTS = {-1, 2, 3, LARGE, SMALL};
    private static final Sentences DOC = new Sentences("boundary cases of promises 23 to 29");

    private TextsAndUndoBoundaryTest() {
    }

    public static void main(String[] args) {
        putAppends();
        putHowMany();
        putCodes();
        putBitsAboveZeros();
        putReturns();
        wipeReturns();
        faultReturns();
        loadInPlace();
        loadReturns();
        loadTooMany();
        undoLatest();
        undoMost();
        undoRecordedChanges();
        undoOfChangesThatChangeNothing();
        undoOfNoChanges();
        undoOfRefusedCalls();
        undoReturns();
        undoLeavesPadAndSlots();
        saveOverwrites();
        saveSlot();
        saveReturns();
        restoreKeeps();
        restoreIsAChange();
        restoreReturns();
        restoreAtTheLimits();
        DOC.end();
    }

    private static void putAppends() {
        DOC.says("Promise 23", "Appends characters to the pad. They are given as a number: its lowest 8 bits are the last character, the "
            + "next 8 bits the one before, and so on");
        DeadRuns row = new DeadRuns();
        DOC.due("put('1;2')", row.put(('1' << 16) + (';' << 8) + '2'), 3);
        DOC.due("put('*12;x;9*')", row.put(Pads.packed("*12;x;9*")), 11);
        DOC.due("put('3')", row.put('3'), 12);
        DOC.due("load()", row.load(), 4);
        DOC.dueRow(row, "1;2*12;x;9*3");
    }

    private static void putHowMany() {
        DOC.says("Promise 23", "`characters`: 1 to 8 characters");
        for (int many = 1; many <= 8; many++) {
            DeadRuns row = new DeadRuns();
            DOC.due("put of " + many, row.put(Pads.packed("1;2;3;4;".substring(0, many))), many);
            DOC.due("count(7)", row.count(7), many);
            DOC.due("fault()", row.fault(), many % 2 == 1 ? -6 : many);
        }
        DOC.due("put(0)", new DeadRuns().put(0), -2);
    }

    private static void putCodes() {
        DOC.says("Promise 23, codes", "a code is not 33 to 126");
        DeadRuns row = new DeadRuns();
        for (int code = 1; code <= 255; code++) {
            boolean good = code >= 33 && code <= 126;
            row.wipe();
            DOC.due("put of the code " + code, row.put(code), good ? 1 : -2);
        }
        for (int at = 0; at < 8; at++) {
            for (int code : new int[] {1, 32, 33, 126, 127, 128, 255}) {
                long others = 0x3131313131313131L & ~(255L << (8 * at));
                row = new DeadRuns();
                DOC.due("put of 8 with the code " + code + " at " + (7 - at), row.put(others | (long) code << (8 * at)),
                    code == 33 || code == 126 ? 8 : -2);
            }
        }
    }

    private static void putBitsAboveZeros() {
        DOC.says("Promise 23", "8 bits that are 0 mean that there are no more characters, and everything above them has to be 0, too.");
        DeadRuns row = new DeadRuns();
        for (int zeros = 1; zeros < 7; zeros++) {
            long lower = 0x3131313131313131L >>> (8 * (8 - zeros));
            DOC.due("put of " + zeros, row.put(lower), zeros);
            row.wipe();
            for (int bit = 8 * zeros + 8; bit < 64; bit++) {
                DOC.due("put of " + zeros + " and the bit " + bit, row.put(lower | 1L << bit), -2);
            }
            DOC.due("put of " + zeros + " and 8 above a gap", row.put(lower | 0x31L << (8 * zeros + 8)), -2);
        }
        DOC.due("put of 7 and no eighth", row.put(0x0031313131313131L), 7);
        DOC.due("put of no character, but seven above it", row.put(0x3131313131313100L), -2);
        DOC.due("put(Long.MIN_VALUE)", row.put(Long.MIN_VALUE), -2);
        DOC.due("put(Long.MAX_VALUE)", row.put(Long.MAX_VALUE), -2);
        DOC.due("put(-1)", row.put(-1), -2);
        DOC.due("put(256)", row.put(256), -2);
        DOC.due("count(7)", row.count(7), 7);
    }

    private static void putReturns() {
        DOC.says("Promise 23", "Returns the length of the pad then; BAD_VALUE if there is no character, a code is not 33 to 126, or a bit above "
            + "8 bits that are 0 is not 0; TOO_MANY if the pad would be longer than 80.");
        DeadRuns row = new DeadRuns();
        for (int i = 1; i <= 9; i++) {
            DOC.due("put of 8", row.put(Pads.packed("12345678")), 8 * i);
        }
        DOC.due("put of 7", row.put(Pads.packed("1234567")), 79);
        DOC.due("put of 2, 81 in all", row.put(Pads.packed("12")), -4);
        DOC.due("put of 8, 87 in all", row.put(Pads.packed("12345678")), -4);
        DOC.due("put of 1, 80 in all", row.put('1'), 80);
        DOC.due("put of 1, 81 in all", row.put('1'), -4);
        DOC.due("put of a code that is none", row.put(127), -2);
        DOC.due("put of no character", row.put(0), -2);
        DOC.due("wipe()", row.wipe(), 80);
        DOC.due("put of 8", row.put(Pads.packed("12345678")), 8);
        DeadRuns exact = new DeadRuns();
        for (int i = 1; i <= 10; i++) {
            DOC.due("put of 8", exact.put(Pads.packed("12345678")), 8 * i);
        }
        DOC.due("put of 8, 88 in all", exact.put(Pads.packed("12345678")), -4);
    }

    private static void wipeReturns() {
        DOC.says("Promise 24", "Empties the pad, and returns the length that it had.");
        DeadRuns row = Pads.loaded("1;2");
        DOC.due("wipe() behind load()", row.wipe(), 0);
        Pads.putAll(row, "?");
        DOC.due("wipe()", row.wipe(), 1);
        DOC.due("wipe()", row.wipe(), 0);
        Pads.putAll(row, "x".repeat(80));
        DOC.due("wipe()", row.wipe(), 80);
        DOC.due("count(7)", row.count(7), 0);
        DOC.due("fault()", row.fault(), 0);
        DOC.dueRow(row, "1;2");
        Pads.putAll(row, "3");
        DOC.due("load()", row.load(), 1);
        DOC.dueRow(row, "3");
    }

    private static void faultReturns() {
        DOC.says("Promise 25", "Returns the fault of the pad, NONE if there is none.");
        DeadRuns row = Pads.loaded("7*3;x");
        DOC.due("fault() of an empty pad", row.fault(), 0);
        Pads.putAll(row, "1");
        DOC.due("fault()", row.fault(), -6);
        Pads.putAll(row, ";");
        DOC.due("fault()", row.fault(), 2);
        Pads.putAll(row, "a1;2");
        DOC.due("fault()", row.fault(), 2);
        row.wipe();
        Pads.putAll(row, "1*3000;2*3000");
        DOC.due("fault() of a row that would be too long", row.fault(), -6);
        DOC.due("fault(), once more", row.fault(), -6);
        DOC.dueRow(row, "7*3;x");
        Supplier<DeadRuns> made = () -> {
            DeadRuns other = Pads.loaded("7*3;x");
            Pads.putAll(other, "5*3000;5");
            return other;
        };
        DOC.dueUnchanged("fault()", made, DeadRuns::fault);
    }

    private static void loadInPlace() {
        DOC.says("Promise 26", "Reads the pad as a row, in place of the one that there is, and empties the pad. This is a change.");
        DeadRuns row = Pads.loaded("x*3000");
        row.set(0, 2);
        row.set(1, 0);
        Pads.putAll(row, "1;2");
        DOC.due("load()", row.load(), 2);
        DOC.dueRow(row, "1;2");
        DOC.due("count(0)", row.count(0), 2);
        DOC.due("count(7)", row.count(7), 0);
        DOC.due("count(8)", row.count(8), 4);
        DOC.due("count(9), as it was", row.count(9), 2);
        DOC.due("count(10), as it was", row.count(10), 0);
        DOC.due("load() once more", row.load(), -3);
        DOC.due("undo()", row.undo(), 3);
        DOC.dueRow(row, "x*3000");
        DOC.due("count(7), which undo doesn't fill", row.count(7), 0);
    }

    private static void loadReturns() {
        DOC.says("Promise 26", "Returns how many runs it has; BAD_TEXT if the pad has a fault; TOO_MANY if it has more than 3000 signs or 50 "
            + "runs.");
        String[] texts = {"1", "1;1", "1;2", "x;x*2;1;1*5;x", "1*3000", "1*2999;2", "1*1500;1*1500", "", ";", "1;", "1*", "1*3001", "1*0"};
        int[] answers = {1, 1, 2, 3, 1, 2, 1, -3, -3, -3, -3, -3, -3};
        for (int i = 0; i < texts.length; i++) {
            DeadRuns row = new DeadRuns();
            Pads.putAll(row, texts[i]);
            DOC.due("load() of '" + texts[i] + "'", row.load(), answers[i]);
            DOC.due("count(7)", row.count(7), answers[i] < 0 ? texts[i].length() : 0);
            DOC.due("count(8)", row.count(8), answers[i] < 0 ? 0 : 1);
        }
        DOC.due("count(1) of 40 runs", Pads.loaded("1;2;".repeat(19) + "1;2").count(1), 40);
    }

    private static void loadTooMany() {
        DOC.says("Promise 26, too many", "TOO_MANY if it has more than 3000 signs or 50 runs.");
        for (String text : new String[] {"1*3000;1", "1;1*3000", "1*3000;2", "x*1500;x*1501", "1*2999;2;3", "0*3000;0*3000",
            "9*3000;9*3000;9*3000;9*3000;9*3000;9*3000;9*3000;9*3000;9*3000;9*3000;9*3000;9"}) {
            DeadRuns row = Pads.loaded("5;x");
            Pads.putAll(row, text);
            DOC.due("load() of '" + text + "'", row.load(), -4);
            DOC.dueRow(row, "5;x");
            DOC.due("count(7)", row.count(7), text.length());
            DOC.due("count(8)", row.count(8), 1);
            Pads.putAll(row, ";");
            DOC.due("load() with a fault, too", row.load(), -3);
        }
    }

    private static void undoLatest() {
        DOC.says("Promise 27", "Undoes the latest change: the row and the settings are as they were before it.");
        DeadRuns row = Pads.loaded("1*3;x");
        row.set(0, 1);
        row.set(1, 0);
        row.erase(2, 2);
        DOC.due("undo() of erase", row.undo(), 3);
        DOC.dueRow(row, "1*3;x");
        DOC.due("count(9)", row.count(9), 1);
        DOC.due("count(10)", row.count(10), 0);
        DOC.due("undo() of set(SAVE_DEAD)", row.undo(), 2);
        DOC.due("count(10)", row.count(10), 1);
        DOC.due("erase(2, 2), as SAVE_DEAD is 1 again", row.erase(2, 2), -5);
        DOC.due("undo() of set(CODE)", row.undo(), 1);
        DOC.due("count(9)", row.count(9), 0);
        DOC.due("count(3)", row.count(3), 30);
        DOC.due("undo() of load", row.undo(), 0);
        DOC.due("count(0)", row.count(0), 0);
        DOC.due("kill(0, 1)", row.kill(0, 1), -1);
    }

    private static void undoMost() {
        DOC.says("Promise 27", "when one more is recorded, the oldest one is dropped.");
        for (int changes = 0; changes <= 20; changes++) {
            DeadRuns row = new DeadRuns();
            for (int i = 0; i < changes; i++) {
                row.insert(0, 5, 1);
            }
            int most = Math.min(changes, 6);
            DOC.due("count(8) behind " + changes, row.count(8), most);
            for (int left = most - 1; left >= 0; left--) {
                DOC.due("undo() behind " + changes, row.undo(), left);
                DOC.due("count(0)", row.count(0), changes - most + left);
            }
            DOC.due("undo() behind " + changes, row.undo(), -5);
            DOC.due("count(0)", row.count(0), changes - most);
        }
        DeadRuns full = new DeadRuns();
        for (int i = 0; i < 8; i++) {
            full.insert(i, i, 1);
        }
        full.undo();
        full.undo();
        DOC.due("insert(6, 9, 1)", full.insert(6, 9, 1), 7);
        DOC.due("count(8)", full.count(8), 5);
        full.insert(7, 9, 1);
        full.insert(8, 9, 1);
        DOC.due("count(8)", full.count(8), 6);
        DOC.dueRow(full, "0;1;2;3;4;5;9*3");
        for (int left = 5; left >= 0; left--) {
            DOC.due("undo()", full.undo(), left);
        }
        DOC.dueRow(full, "0;1;2");
    }

    private static void dueRecorded(String call, ToIntFunction<DeadRuns> change) {
        DeadRuns row = Pads.loaded("1*3;x*2;2");
        row.save(1);
        row.insert(0, 7, 1);
        Pads.putAll(row, "4;5");
        DOC.due(call + " fails", change.applyAsInt(row) < 0 ? 1 : 0, 0);
        DOC.due("count(8) behind " + call, row.count(8), 3);
        DOC.due("undo() of " + call, row.undo(), 2);
        DOC.dueRow(row, "7;1*3;x*2;2");
        DOC.due("count(9)", row.count(9), 0);
        DOC.due("count(10)", row.count(10), 1);
    }

    private static void undoRecordedChanges() {
        DOC.says("Promise 27", "A history of at most 6 states is kept: each method that is a change, and returns no error, records the state "
            + "before it");
        dueRecorded("set(CODE, 2)", row -> row.set(0, 2));
        dueRecorded("set(SAVE_DEAD, 0)", row -> row.set(1, 0));
        dueRecorded("insert(7, 3, 4)", row -> row.insert(7, 3, 4));
        dueRecorded("erase(0, 4)", row -> row.erase(0, 4));
        dueRecorded("write(0, 7, 8)", row -> row.write(0, 7, 8));
        dueRecorded("add(0, 7, 8)", row -> row.add(0, 7, 8));
        dueRecorded("kill(0, 7)", row -> row.kill(0, 7));
        dueRecorded("revive(0, 7)", row -> row.revive(0, 7));
        dueRecorded("turn(0, 7)", row -> row.turn(0, 7));
        dueRecorded("move(0, 2, 5)", row -> row.move(0, 2, 5));
        dueRecorded("load()", DeadRuns::load);
        dueRecorded("restore(1)", row -> row.restore(1));
    }

    private static void undoOfChangesThatChangeNothing() {
        DOC.says("Promise 27", "(also if nothing is different then)");
        dueRecorded("set(CODE, 0)", row -> row.set(0, 0));
        dueRecorded("set(SAVE_DEAD, 1)", row -> row.set(1, 1));
        dueRecorded("write(1, 3, 1)", row -> row.write(1, 3, 1));
        dueRecorded("write(4, 2, 1)", row -> row.write(4, 2, 1));
        dueRecorded("add(4, 2, 1)", row -> row.add(4, 2, 1));
        dueRecorded("kill(4, 2)", row -> row.kill(4, 2));
        dueRecorded("revive(0, 4)", row -> row.revive(0, 4));
        dueRecorded("turn(0, 1)", row -> row.turn(0, 1));
        dueRecorded("turn(1, 3)", row -> row.turn(1, 3));
        dueRecorded("move(2, 1, 2)", row -> row.move(2, 1, 2));
        dueRecorded("move(0, 7, 0)", row -> row.move(0, 7, 0));
        dueRecorded("save(1) and restore(1)", row -> row.save(1) + row.restore(1));
        dueRecorded("load() of the row that there is", row -> {
            row.wipe();
            Pads.putAll(row, "7;1*3;x*2;2");
            return row.load();
        });
    }

    private static void undoOfNoChanges() {
        DOC.says("Promise 27, calls that are no change", "each method that is a change");
        Supplier<DeadRuns> made = () -> {
            DeadRuns row = Pads.loaded("1*3;x*2;2");
            row.set(0, 1);
            return row;
        };
        DeadRuns row = made.get();
        Pads.putAll(row, "1;2");
        row.fault();
        row.wipe();
        row.save(0);
        row.save(1);
        row.sign(0);
        row.ofRun(0, 3);
        row.count(8);
        row.howMany(0, 6, 1);
        row.bit(0);
        row.character(0);
        row.size(0);
        row.bestCode();
        row.longestLive(0);
        row.find(0, 11);
        row.bestWrite(0);
        row.unlikeMirror();
        DOC.due("count(8)", row.count(8), 2);
        DOC.due("undo()", row.undo(), 1);
        DOC.due("count(8), as undo is no change", row.count(8), 1);
        DOC.due("undo()", row.undo(), 0);
        DOC.due("undo()", row.undo(), -5);
        DOC.due("count(0)", row.count(0), 0);
        DOC.dueUnchanged("sign(0)", made, other -> other.sign(0));
        DOC.dueUnchanged("ofRun(0, 3)", made, other -> other.ofRun(0, 3));
        DOC.dueUnchanged("count(3)", made, other -> other.count(3));
        DOC.dueUnchanged("howMany(0, 6, 1)", made, other -> other.howMany(0, 6, 1));
        DOC.dueUnchanged("bit(0)", made, other -> other.bit(0));
        DOC.dueUnchanged("character(0)", made, other -> other.character(0));
    }

    private static void undoOfRefusedCalls() {
        DOC.says("Promise 27, refused calls", "and returns no error");
        DeadRuns row = Pads.loaded("1;x;2");
        Pads.putAll(row, "1*3000;1");
        int[] answers = {row.set(0, 3), row.set(2, 0), row.insert(4, 0, 1), row.insert(0, 11, 1), row.insert(0, 0, 3000), row.erase(1, 1),
            row.erase(0, 4), row.write(0, 4, 1), row.write(0, 3, 10), row.add(0, 4, 1), row.add(0, 3, 0), row.kill(3, 1), row.revive(3, 1),
            row.turn(0, 0), row.move(0, 4, 0), row.move(0, 3, 1), row.load(), row.restore(0), row.restore(2)};
        for (int i = 0; i < answers.length; i++) {
            DOC.due("refused call " + i + " fails", answers[i] < 0 ? 1 : 0, 1);
        }
        DOC.due("count(8)", row.count(8), 1);
        DOC.due("undo()", row.undo(), 0);
        DOC.due("count(0)", row.count(0), 0);
        DOC.due("undo()", row.undo(), -5);
    }

    private static void undoReturns() {
        DOC.says("Promise 27", "Returns how many changes can be undone then; NOT_POSSIBLE if there is none.");
        DeadRuns row = new DeadRuns();
        DOC.due("undo() of a new object", row.undo(), -5);
        row.insert(0, 1, 1);
        DOC.due("undo()", row.undo(), 0);
        DOC.due("undo()", row.undo(), -5);
        DOC.due("undo()", row.undo(), -5);
        row.insert(0, 1, 1);
        row.insert(0, 2, 1);
        DOC.due("undo()", row.undo(), 1);
        row.kill(0, 1);
        DOC.due("undo()", row.undo(), 1);
        DOC.dueRow(row, "1");
        DOC.due("undo()", row.undo(), 0);
        DOC.dueRow(row, "");
    }

    private static void undoLeavesPadAndSlots() {
        DOC.says("Promise 27, nothing else", "the row and the settings are as they were before it.");
        DeadRuns row = new DeadRuns();
        row.insert(0, 1, 4);
        Pads.putAll(row, "1;");
        row.save(0);
        row.insert(0, 2, 4);
        Pads.putAll(row, "2");
        row.save(1);
        DOC.due("undo()", row.undo(), 1);
        DOC.due("undo()", row.undo(), 0);
        DOC.due("count(7)", row.count(7), 3);
        DOC.due("restore(1)", row.restore(1), 8);
        DOC.due("restore(0)", row.restore(0), 4);
        DOC.due("load()", row.load(), 2);
        DOC.dueRow(row, "1;2");
    }

    private static void saveOverwrites() {
        DOC.says("Promise 28", "Saves the row and the settings in a slot, and overwrites what was saved there.");
        DeadRuns row = Pads.loaded("1;x;2");
        row.set(0, 1);
        row.set(1, 0);
        row.save(0);
        row.set(0, 2);
        row.insert(3, 5, 1);
        row.save(1);
        row.erase(0, 4);
        row.set(1, 1);
        row.set(0, 0);
        row.restore(0);
        DOC.dueRow(row, "1;x;2");
        DOC.due("count(9)", row.count(9), 1);
        DOC.due("count(10)", row.count(10), 0);
        row.restore(1);
        DOC.dueRow(row, "1;x;2;5");
        DOC.due("count(9)", row.count(9), 2);
        row.kill(0, 4);
        row.save(0);
        row.undo();
        row.restore(0);
        DOC.dueRow(row, "x*4");
        DOC.due("count(9)", row.count(9), 2);
        row.restore(1);
        DOC.dueRow(row, "1;x;2;5");
        DOC.due("save(0) and kill(0, 2)", row.save(0) + row.kill(0, 2), 4 + 1);
        row.restore(0);
        DOC.dueRow(row, "1;x;2;5");
    }

    private static void saveSlot() {
        DOC.says("Promise 28", "`slot`: 0 or 1");
        DeadRuns row = Pads.loaded("1;x;2");
        DOC.due("save(1)", row.save(1), 3);
        DOC.due("restore(0)", row.restore(0), -5);
        DOC.due("save(0)", row.save(0), 3);
        DOC.due("restore(0)", row.restore(0), 3);
        for (int slot : NO_SLOTS) {
            DOC.due("save(" + slot + ")", row.save(slot), -2);
        }
    }

    private static void saveReturns() {
        DOC.says("Promise 28", "Returns the length of the row; BAD_VALUE if there is no such slot.");
        DOC.due("save(0) of an empty row", new DeadRuns().save(0), 0);
        DOC.due("save(1) of an empty row", new DeadRuns().save(1), 0);
        DOC.due("save(2) of an empty row", new DeadRuns().save(2), -2);
        DOC.due("save(1) of 3000 signs", Pads.loaded("1*3000").save(1), 3000);
        DeadRuns runs = Pads.onesAndTwos(50);
        DOC.due("save(1) of 50 runs", runs.save(1), 50);
        DOC.due("count(8), as save is no change", runs.count(8), 6);
    }

    private static void restoreKeeps() {
        DOC.says("Promise 29", "Restores what was saved last in a slot, which keeps it.");
        DeadRuns row = Pads.loaded("1;x;2");
        row.save(0);
        row.insert(0, 9, 1);
        row.save(0);
        for (int i = 0; i < 3; i++) {
            row.kill(0, 2);
            row.set(0, 2);
            DOC.due("restore(0)", row.restore(0), 4);
            DOC.dueRow(row, "9;1;x;2");
            DOC.due("count(9)", row.count(9), 0);
            row.write(0, 4, 5);
            DOC.due("restore(0)", row.restore(0), 4);
            DOC.dueRow(row, "9;1;x;2");
        }
        row.undo();
        DOC.due("restore(0) behind undo()", row.restore(0), 4);
        DOC.dueRow(row, "9;1;x;2");
    }

    private static void restoreIsAChange() {
        DOC.says("Promise 29", "This is a change.");
        DeadRuns row = new DeadRuns();
        row.save(1);
        row.insert(0, 4, 2);
        row.set(0, 2);
        Pads.putAll(row, "x");
        DOC.due("restore(1) of an empty row", row.restore(1), 0);
        DOC.dueRow(row, "");
        DOC.due("count(7), as the pad is not saved", row.count(7), 1);
        DOC.due("count(8)", row.count(8), 3);
        DOC.due("undo()", row.undo(), 2);
        DOC.dueRow(row, "4*2");
        DOC.due("count(9)", row.count(9), 2);
        for (int i = 0; i < 7; i++) {
            row.restore(1);
        }
        DOC.due("count(8)", row.count(8), 6);
        for (int left = 5; left >= 0; left--) {
            DOC.due("undo()", row.undo(), left);
        }
        DOC.due("count(0), as the oldest was dropped", row.count(0), 0);
        DOC.due("undo()", row.undo(), -5);
    }

    private static void restoreReturns() {
        DOC.says("Promise 29", "Returns the length of the row then; BAD_VALUE if there is no such slot; NOT_POSSIBLE if nothing was saved in "
            + "it.");
        DeadRuns row = Pads.loaded("1;x;2");
        DOC.due("restore(0)", row.restore(0), -5);
        DOC.due("restore(1)", row.restore(1), -5);
        for (int slot : NO_SLOTS) {
            DOC.due("restore(" + slot + ")", row.restore(slot), -2);
        }
        row.save(0);
        DOC.due("restore(1)", row.restore(1), -5);
        DOC.due("restore(0)", row.restore(0), 3);
        row.undo();
        row.undo();
        DOC.due("restore(0) of a longer row", row.restore(0), 3);
        DOC.dueRow(row, "1;x;2");
    }

    private static void restoreAtTheLimits() {
        DOC.says("Promise 29, at the limits", "Returns the length of the row then");
        DeadRuns row = Pads.onesAndTwos(50);
        row.insert(0, 1, 2950);
        DOC.due("save(0) of 3000 signs and 50 runs", row.save(0), 3000);
        row.kill(0, 3000);
        DOC.due("restore(0)", row.restore(0), 3000);
        DOC.dueRow(row, "1*2951" + ";2;1".repeat(24) + ";2");
        DOC.due("undo()", row.undo(), 5);
        DOC.dueRow(row, "x*3000");
        DOC.due("undo()", row.undo(), 4);
        DOC.due("count(1)", row.count(1), 50);
        DOC.due("insert(0, 1, 1)", row.insert(0, 1, 1), -4);
    }
}
