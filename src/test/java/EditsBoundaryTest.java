/** The sentences of promises 1 to 10, a new object and the edits, that name a boundary case, a test for each. */
public final class EditsBoundaryTest {
    private static final int LARGE = Integer.MAX_VALUE;
    private static final int SMALL = Integer.MIN_VALUE;
    private static final Sentences DOC = new Sentences("boundary cases of promises 1 to 10");

    private EditsBoundaryTest() {
    }

    public static void main(String[] args) {
        emptyRow();
        setIsAChange();
        setReturns();
        insertAt();
        insertSign();
        insertMany();
        insertReturns();
        insertInsideOfRuns();
        eraseDead();
        eraseReturns();
        eraseToNothing();
        writeLiveOnly();
        writeValue();
        writeReturns();
        addLeftOver();
        addMore();
        addReturns();
        killAll();
        killReturns();
        reviveDead();
        reviveReturns();
        turnAll();
        turnLiveOnly();
        turnReturns();
        moveWithDead();
        moveTo();
        moveReturns();
        DOC.end();
    }

    private static DeadRuns withoutSaving(String text) {
        DeadRuns row = Pads.loaded(text);
        row.set(DeadRuns.SAVE_DEAD, 0);
        return row;
    }

    private static void emptyRow() {
        DOC.says("Promise 1", "Creates an empty row.");
        DeadRuns row = new DeadRuns();
        for (int what = 0; what <= 9; what++) {
            DOC.due("count(" + what + ")", row.count(what), 0);
        }
        DOC.due("count(10)", row.count(10), 1);
        DOC.due("sign(0)", row.sign(0), -1);
        DOC.due("ofRun(0, 0)", row.ofRun(0, 0), -1);
        DOC.due("bit(0)", row.bit(0), -1);
        DOC.due("character(0)", row.character(0), -1);
        DOC.due("size(0)", row.size(0), 0);
        DOC.due("size(1)", row.size(1), 0);
        DOC.due("size(2)", row.size(2), 0);
        DOC.due("bestCode()", row.bestCode(), 0);
        DOC.due("longestLive(0)", row.longestLive(0), -6);
        DOC.due("longestLive(1)", row.longestLive(1), -6);
        DOC.due("find(0, 1)", row.find(0, 1), -6);
        DOC.due("bestWrite(2)", row.bestWrite(2), -6);
        DOC.due("unlikeMirror()", row.unlikeMirror(), 0);
        DOC.due("wipe()", row.wipe(), 0);
        DOC.due("fault()", row.fault(), 0);
        DOC.due("load()", row.load(), -3);
        DOC.due("undo()", row.undo(), -5);
        DOC.due("restore(0)", row.restore(0), -5);
        DOC.due("restore(1)", row.restore(1), -5);
        DOC.due("save(0)", row.save(0), 0);
        DeadRuns other = new DeadRuns();
        other.insert(0, 1, 1);
        DOC.due("count(0), which no other object changes", row.count(0), 0);
    }

    private static void setIsAChange() {
        DOC.says("Promise 2", "Changes a setting. This is a change.");
        DeadRuns row = Pads.loaded("1*5;x");
        row.set(0, 1);
        DOC.due("count(9)", row.count(9), 1);
        DOC.due("count(10)", row.count(10), 1);
        row.set(1, 0);
        DOC.due("count(9)", row.count(9), 1);
        DOC.due("count(10)", row.count(10), 0);
        row.set(1, 0);
        DOC.due("count(8), also behind the same value", row.count(8), 4);
        DOC.dueRow(row, "1*5;x");
        DOC.due("undo()", row.undo(), 3);
        DOC.due("count(10)", row.count(10), 0);
        DOC.due("undo()", row.undo(), 2);
        DOC.due("count(10)", row.count(10), 1);
    }

    private static void setReturns() {
        DOC.says("Promise 2", "Returns the previous value; BAD_VALUE if there is no such setting, or the value is out of its range.");
        DeadRuns row = new DeadRuns();
        int[][] calls = {{0, 2, 0}, {0, 2, 2}, {0, 0, 2}, {0, 1, 0}, {1, 1, 1}, {1, 0, 1}, {1, 0, 0}, {1, 1, 0}, {0, -1, -2}, {0, 3, -2},
            {0, LARGE, -2}, {0, SMALL, -2}, {1, -1, -2}, {1, 2, -2}, {1, LARGE, -2}, {1, SMALL, -2}, {-1, 0, -2}, {2, 0, -2}, {2, 1, -2},
            {-1, 1, -2}, {LARGE, 0, -2}, {SMALL, 0, -2}};
        for (int[] call : calls) {
            DOC.due("set(" + call[0] + ", " + call[1] + ")", row.set(call[0], call[1]), call[2]);
        }
        DOC.due("count(9)", row.count(9), 1);
        DOC.due("count(10)", row.count(10), 1);
    }

    private static void insertAt() {
        DOC.says("Promise 3", "`at`: a place, or the length of the row");
        DeadRuns row = new DeadRuns();
        DOC.due("insert(1, 5, 1), empty", row.insert(1, 5, 1), -1);
        DOC.due("insert(-1, 5, 1), empty", row.insert(-1, 5, 1), -1);
        DOC.due("insert(0, 5, 2), empty", row.insert(0, 5, 2), 2);
        DOC.due("insert(3, 6, 1)", row.insert(3, 6, 1), -1);
        DOC.due("insert(2, 6, 1)", row.insert(2, 6, 1), 3);
        DOC.due("insert(0, 7, 1)", row.insert(0, 7, 1), 4);
        DOC.due("insert(3, 8, 1)", row.insert(3, 8, 1), 5);
        DOC.due("insert(-1, 8, 1)", row.insert(-1, 8, 1), -1);
        DOC.due("insert(6, 8, 1)", row.insert(6, 8, 1), -1);
        DOC.due("insert(LARGE, 8, 1)", row.insert(LARGE, 8, 1), -1);
        DOC.due("insert(SMALL, 8, 1)", row.insert(SMALL, 8, 1), -1);
        DOC.dueRow(row, "7;5*2;8;6");
    }

    private static void insertSign() {
        DOC.says("Promise 3", "`sign`: 0 to 9, or DEAD");
        DeadRuns row = new DeadRuns();
        DOC.due("insert(0, 0, 1)", row.insert(0, 0, 1), 1);
        DOC.due("insert(0, 9, 1)", row.insert(0, 9, 1), 2);
        DOC.due("insert(0, 10, 1)", row.insert(0, 10, 1), 3);
        DOC.due("insert(0, 11, 1)", row.insert(0, 11, 1), -2);
        DOC.due("insert(0, -1, 1)", row.insert(0, -1, 1), -2);
        DOC.due("insert(0, LARGE, 1)", row.insert(0, LARGE, 1), -2);
        DOC.due("insert(0, SMALL, 1)", row.insert(0, SMALL, 1), -2);
        DOC.dueRow(row, "x;9;0");
    }

    private static void insertMany() {
        DOC.says("Promise 3", "`many`: 1 to 3000");
        DOC.due("insert(0, 1, 1)", new DeadRuns().insert(0, 1, 1), 1);
        DOC.due("insert(0, 1, 3000)", new DeadRuns().insert(0, 1, 3000), 3000);
        DeadRuns row = new DeadRuns();
        DOC.due("insert(0, 1, 0)", row.insert(0, 1, 0), -2);
        DOC.due("insert(0, 1, -1)", row.insert(0, 1, -1), -2);
        DOC.due("insert(0, 1, 3001)", row.insert(0, 1, 3001), -2);
        DOC.due("insert(0, 1, LARGE)", row.insert(0, 1, LARGE), -2);
        DOC.due("insert(0, 1, SMALL)", row.insert(0, 1, SMALL), -2);
        DOC.due("count(0)", row.count(0), 0);
    }

    private static void insertReturns() {
        DOC.says("Promise 3", "Returns the length of the row then; NO_SUCH if there is no such place; BAD_VALUE if sign or many is out of "
            + "range; TOO_MANY.");
        DeadRuns row = new DeadRuns();
        DOC.due("insert(0, 3, 2000)", row.insert(0, 3, 2000), 2000);
        DOC.due("insert(2001, 3, 1)", row.insert(2001, 3, 1), -1);
        DOC.due("insert(2000, 3, 3001)", row.insert(2000, 3, 3001), -2);
        DOC.due("insert(2000, 3, 1001)", row.insert(2000, 3, 1001), -4);
        DOC.due("insert(2000, 3, 1000)", row.insert(2000, 3, 1000), 3000);
        DOC.due("insert(3000, 3, 1)", row.insert(3000, 3, 1), -4);
    }

    private static void insertInsideOfRuns() {
        DOC.says("Promise 3", "Inserts signs. This is a change.");
        DeadRuns row = Pads.loaded("1*4;x*4");
        row.insert(2, 2, 1);
        DOC.dueRow(row, "1*2;2;1*2;x*4");
        row.insert(7, 1, 2);
        DOC.dueRow(row, "1*2;2;1*2;x*2;1*2;x*2");
        row.insert(0, 1, 1);
        row.insert(12, 10, 1);
        DOC.dueRow(row, "1*3;2;1*2;x*2;1*2;x*3");
        DOC.due("count(8)", row.count(8), 5);
        DOC.due("undo()", row.undo(), 4);
        DOC.dueRow(row, "1*3;2;1*2;x*2;1*2;x*2");
    }

    private static void eraseDead() {
        DOC.says("Promise 4", "Takes a piece out of the row, dead signs, too; but if SAVE_DEAD is 1, it is not possible if there is a dead "
            + "one in it. This is a change.");
        DeadRuns row = Pads.loaded("x;1*3;x;2*3;x");
        DOC.due("erase(0, 1), only a dead one", row.erase(0, 1), -5);
        DOC.due("erase(0, 3), the first one is dead", row.erase(0, 3), -5);
        DOC.due("erase(2, 3), the last one is dead", row.erase(2, 3), -5);
        DOC.due("erase(3, 4), one within is dead", row.erase(3, 4), -5);
        DOC.due("erase(0, 9)", row.erase(0, 9), -5);
        DOC.due("erase(2, 2), dead ones only beside it", row.erase(2, 2), 7);
        DOC.due("erase(3, 3), dead ones on both sides", row.erase(3, 3), 4);
        DOC.dueRow(row, "x;1;x*2");
        DOC.due("count(8)", row.count(8), 3);
        row.set(1, 0);
        DOC.due("erase(2, 2)", row.erase(2, 2), 2);
        DOC.due("erase(0, 1)", row.erase(0, 1), 1);
        DOC.dueRow(row, "1");
        row.set(1, 1);
        DOC.due("erase(0, 1)", row.erase(0, 1), 0);
    }

    private static void eraseReturns() {
        DOC.says("Promise 4", "Returns the length of the row then; NO_SUCH if there is no such piece; TOO_MANY; NOT_POSSIBLE.");
        DeadRuns row = Pads.loaded("1;x;1*2");
        DOC.due("erase(1, 4)", row.erase(1, 4), -1);
        DOC.due("erase(4, 1)", row.erase(4, 1), -1);
        DOC.due("erase(1, 0)", row.erase(1, 0), -1);
        DOC.due("erase(1, 3)", row.erase(1, 3), -5);
        DOC.due("erase(3, 1)", row.erase(3, 1), 3);
        row.set(1, 0);
        DOC.due("erase(1, 1)", row.erase(1, 1), 2);
        DOC.dueRow(row, "1*2");
        DeadRuns runs = Pads.onesAndTwos(50);
        DOC.due("erase(1, 1) of 50 runs", runs.erase(1, 1), 49);
        DOC.due("count(1)", runs.count(1), 48);
    }

    private static void eraseToNothing() {
        DOC.says("Promise 4, empty then", "Takes a piece out of the row");
        DeadRuns row = withoutSaving("1*2;x*2998");
        DOC.due("erase(0, 3000)", row.erase(0, 3000), 0);
        DOC.dueRow(row, "");
        DOC.due("count(1)", row.count(1), 0);
        DOC.due("erase(0, 1)", row.erase(0, 1), -1);
        DOC.due("insert(0, 4, 1)", row.insert(0, 4, 1), 1);
        DOC.dueRow(row, "4");
    }

    private static void writeLiveOnly() {
        DOC.says("Promise 5", "Gives all live signs of a piece a value; dead ones stay. This is a change.");
        DeadRuns row = Pads.loaded("x;1*2;x*2;2*2;x");
        row.write(0, 8, 0);
        DOC.dueRow(row, "x;0*2;x*2;0*2;x");
        row.write(2, 4, 9);
        DOC.dueRow(row, "x;0;9;x*2;9;0;x");
        DOC.due("write(0, 1, 5), only a dead one", row.write(0, 1, 5), 0);
        DOC.due("write(3, 2, 0), only dead ones", row.write(3, 2, 0), 0);
        DOC.dueRow(row, "x;0;9;x*2;9;0;x");
        DOC.due("count(8)", row.count(8), 5);
        DOC.due("write(0, 8, 3), whatever SAVE_DEAD is", row.set(1, 0) + row.write(0, 8, 3), 1 + 4);
        DOC.dueRow(row, "x;3*2;x*2;3*2;x");
    }

    private static void writeValue() {
        DOC.says("Promise 5", "`value`: 0 to 9");
        DeadRuns row = Pads.loaded("4*3");
        DOC.due("write(0, 3, 0)", row.write(0, 3, 0), 3);
        DOC.due("write(0, 3, 9)", row.write(0, 3, 9), 3);
        DOC.due("write(0, 3, 10)", row.write(0, 3, 10), -2);
        DOC.due("write(0, 3, 11)", row.write(0, 3, 11), -2);
        DOC.due("write(0, 3, -1)", row.write(0, 3, -1), -2);
        DOC.due("write(0, 3, LARGE)", row.write(0, 3, LARGE), -2);
        DOC.due("write(0, 3, SMALL)", row.write(0, 3, SMALL), -2);
        DOC.dueRow(row, "9*3");
    }

    private static void writeReturns() {
        DOC.says("Promise 5", "Returns how many live signs have another value then than before; NO_SUCH if there is no such piece; "
            + "BAD_VALUE if value is out of range; TOO_MANY.");
        DeadRuns row = Pads.loaded("1*3;x*2;2*3;1");
        DOC.due("write(1, 7, 2)", row.write(1, 7, 2), 2);
        DOC.due("write(1, 7, 2)", row.write(1, 7, 2), 0);
        DOC.due("write(0, 9, 1)", row.write(0, 9, 1), 5);
        DOC.due("write(0, 9, 3)", row.write(0, 9, 3), 7);
        DOC.due("write(9, 1, 3)", row.write(9, 1, 3), -1);
        DOC.due("write(0, 9, 10)", row.write(0, 9, 10), -2);
        DeadRuns full = Pads.loaded("1*3000");
        DOC.due("write(0, 3000, 2)", full.write(0, 3000, 2), 3000);
        DOC.due("write(0, 2999, 1)", full.write(0, 2999, 1), 2999);
        DeadRuns runs = Pads.onesAndTwos(50);
        DOC.due("write(25, 1, 1)", runs.write(25, 1, 1), 1);
        DOC.due("write(25, 1, 3)", runs.write(25, 1, 3), 1);
        DOC.due("insert(25, 3, 2)", runs.insert(25, 3, 2), 52);
        DOC.due("write(26, 1, 4)", runs.write(26, 1, 4), -4);
    }

    private static void addLeftOver() {
        DOC.says("Promise 6", "Adds a number to the values of all live signs of a piece, left over by 10; dead ones stay. This is a change.");
        DeadRuns row = Pads.loaded("0;1;x;8;9");
        row.add(0, 5, 1);
        DOC.dueRow(row, "1;2;x;9;0");
        row.add(0, 5, 9);
        DOC.dueRow(row, "0;1;x;8;9");
        row.add(0, 5, 2);
        DOC.dueRow(row, "2;3;x;0;1");
        row.add(1, 3, 8);
        DOC.dueRow(row, "2;1;x;8;1");
        DOC.due("count(8)", row.count(8), 5);
        DOC.due("add(2, 1, 5), only a dead one", row.add(2, 1, 5), 0);
        DOC.due("count(8)", row.count(8), 6);
        DOC.dueRow(row, "2;1;x;8;1");
    }

    private static void addMore() {
        DOC.says("Promise 6", "`more`: 1 to 9");
        DeadRuns row = Pads.loaded("5*2");
        DOC.due("add(0, 2, 1)", row.add(0, 2, 1), 2);
        DOC.due("add(0, 2, 9)", row.add(0, 2, 9), 2);
        DOC.due("add(0, 2, 0)", row.add(0, 2, 0), -2);
        DOC.due("add(0, 2, 10)", row.add(0, 2, 10), -2);
        DOC.due("add(0, 2, -1)", row.add(0, 2, -1), -2);
        DOC.due("add(0, 2, LARGE)", row.add(0, 2, LARGE), -2);
        DOC.due("add(0, 2, SMALL)", row.add(0, 2, SMALL), -2);
        DOC.dueRow(row, "5*2");
    }

    private static void addReturns() {
        DOC.says("Promise 6", "Returns how many live signs there are in the piece; NO_SUCH if there is no such piece; BAD_VALUE if more is "
            + "out of range; TOO_MANY.");
        DeadRuns row = Pads.loaded("1*3;x*2;2*3");
        DOC.due("add(0, 8, 4)", row.add(0, 8, 4), 6);
        DOC.due("add(2, 4, 4)", row.add(2, 4, 4), 2);
        DOC.due("add(3, 2, 4)", row.add(3, 2, 4), 0);
        DOC.due("add(0, 9, 4)", row.add(0, 9, 4), -1);
        DOC.due("add(0, 8, 10)", row.add(0, 8, 10), -2);
        DeadRuns full = Pads.loaded("1*3000");
        DOC.due("add(0, 3000, 9)", full.add(0, 3000, 9), 3000);
        DOC.dueRow(full, "0*3000");
        DeadRuns runs = Pads.onesAndTwos(50);
        DOC.due("add(0, 50, 9)", runs.add(0, 50, 9), 50);
        DOC.due("count(5)", runs.count(5), 25);
        DOC.due("insert(25, 1, 2)", runs.insert(25, 1, 2), 52);
        DOC.due("add(26, 1, 4)", runs.add(26, 1, 4), -4);
    }

    private static void killAll() {
        DOC.says("Promise 7", "Makes all signs of a piece dead. This is a change.");
        DeadRuns row = Pads.loaded("0*2;1;x;2*3");
        row.kill(1, 4);
        DOC.dueRow(row, "0;x*4;2*2");
        DOC.due("count(8)", row.count(8), 2);
        row.kill(2, 1);
        DOC.dueRow(row, "0;x*4;2*2");
        DOC.due("count(8)", row.count(8), 3);
        row.kill(0, 7);
        DOC.dueRow(row, "x*7");
    }

    private static void killReturns() {
        DOC.says("Promise 7", "Returns how many signs were live; NO_SUCH if there is no such piece; TOO_MANY.");
        DeadRuns row = Pads.loaded("0*2;1;x;2*3");
        DOC.due("kill(3, 1)", row.kill(3, 1), 0);
        DOC.due("kill(0, 7)", row.kill(0, 7), 6);
        DOC.due("kill(0, 7)", row.kill(0, 7), 0);
        DOC.due("kill(0, 8)", row.kill(0, 8), -1);
        DOC.due("kill(7, 1)", row.kill(7, 1), -1);
        DOC.due("kill(0, 3000)", Pads.loaded("1*3000").kill(0, 3000), 3000);
        DeadRuns runs = Pads.onesAndTwos(50);
        runs.insert(49, 2, 2);
        DOC.due("kill(49, 1), 51 runs", runs.kill(49, 1), -4);
        DOC.due("kill(50, 1), 52 runs", runs.kill(50, 1), -4);
        DOC.due("kill(49, 3), 50 runs", runs.kill(49, 3), 3);
    }

    private static void reviveDead() {
        DOC.says("Promise 8", "Makes all dead signs of a piece live, with the value 0. This is a change.");
        DeadRuns row = Pads.loaded("x*2;5;x*3;0");
        row.revive(1, 3);
        DOC.dueRow(row, "x;0;5;0;x*2;0");
        row.revive(2, 1);
        DOC.dueRow(row, "x;0;5;0;x*2;0");
        DOC.due("count(8)", row.count(8), 3);
        row.revive(0, 7);
        DOC.dueRow(row, "0*2;5;0*4");
    }

    private static void reviveReturns() {
        DOC.says("Promise 8", "Returns how many signs were dead; NO_SUCH if there is no such piece; TOO_MANY.");
        DeadRuns row = Pads.loaded("x*2;5;x*3;0");
        DOC.due("revive(1, 3)", row.revive(1, 3), 2);
        DOC.due("revive(0, 7)", row.revive(0, 7), 3);
        DOC.due("revive(0, 7)", row.revive(0, 7), 0);
        DOC.due("revive(0, 8)", row.revive(0, 8), -1);
        DOC.due("revive(7, 1)", row.revive(7, 1), -1);
        DOC.due("revive(0, 3000)", Pads.loaded("x*3000").revive(0, 3000), 3000);
        DeadRuns runs = Pads.onesAndTwos(49);
        runs.insert(49, 10, 3);
        DOC.due("revive(49, 1), 51 runs", runs.revive(49, 1), -4);
        DOC.due("revive(50, 1), 52 runs", runs.revive(50, 1), -4);
        DOC.due("revive(49, 3), 50 runs", runs.revive(49, 3), 3);
    }

    private static void turnAll() {
        DOC.says("Promise 9, SAVE_DEAD 0", "Turns a piece round");
        DeadRuns row = withoutSaving("1*2;x;2;3*3");
        DOC.due("turn(3, 1), one sign", row.turn(3, 1), 4);
        DOC.dueRow(row, "1*2;x;2;3*3");
        DOC.due("turn(0, 7), the whole row", row.turn(0, 7), 4);
        DOC.dueRow(row, "3*3;2;x;1*2");
        DOC.due("turn(4, 3), with a dead one at its edge", row.turn(4, 3), 4);
        DOC.dueRow(row, "3*3;2;1*2;x");
        DOC.due("turn(1, 4), an even number", row.turn(1, 4), 6);
        DOC.dueRow(row, "3;1;2;3*2;1;x");
        DOC.due("turn(5, 2)", row.turn(5, 2), 6);
        DOC.dueRow(row, "3;1;2;3*2;x;1");
        DOC.due("turn(0, 1)", row.turn(0, 1), 6);
        DOC.due("turn(6, 1)", row.turn(6, 1), 6);
        DOC.due("turn(4, 1), a dead one just behind it", row.turn(4, 1), 6);
        DOC.dueRow(row, "3;1;2;3*2;x;1");
    }

    private static void turnLiveOnly() {
        DOC.says("Promise 9", "but if SAVE_DEAD is 1, dead signs stay at their places, and the live ones are turned round over the places of "
            + "live ones. This is a change.");
        DeadRuns row = Pads.loaded("x;1;2;x*2;3");
        DOC.due("turn(0, 6), dead at its beginning", row.turn(0, 6), 5);
        DOC.dueRow(row, "x;3;2;x*2;1");
        DOC.due("turn(0, 5), dead at both edges", row.turn(0, 5), 5);
        DOC.dueRow(row, "x;2;3;x*2;1");
        DOC.due("turn(3, 2), only dead ones", row.turn(3, 2), 5);
        DOC.due("turn(0, 1), one dead one", row.turn(0, 1), 5);
        DOC.dueRow(row, "x;2;3;x*2;1");
        DOC.due("turn(2, 4)", row.turn(2, 4), 5);
        DOC.dueRow(row, "x;2;1;x*2;3");
        DOC.due("count(8)", row.count(8), 6);
        DOC.due("turn(1, 2), dead ones just beside it", row.turn(1, 2), 5);
        DOC.dueRow(row, "x;1;2;x*2;3");
        DOC.due("turn(2, 2), a dead one just behind it", row.turn(2, 2), 5);
        DOC.dueRow(row, "x;1;2;x*2;3");
        DeadRuns dead = Pads.loaded("x*3000");
        DOC.due("turn(0, 3000), all dead", dead.turn(0, 3000), 1);
        DeadRuns odd = Pads.loaded("1;x;2*5;x;x;3");
        DOC.due("turn(0, 10)", odd.turn(0, 10), 5);
        DOC.dueRow(odd, "3;x;2*5;x*2;1");
    }

    private static void turnReturns() {
        DOC.says("Promise 9", "Returns how many runs there are then; NO_SUCH if there is no such piece; TOO_MANY.");
        DeadRuns row = Pads.loaded("1*2;2*2;1*2");
        DOC.due("turn(0, 6)", row.turn(0, 6), 3);
        DOC.due("turn(0, 3)", row.turn(0, 3), 4);
        DOC.due("turn(1, 5)", row.turn(1, 5), 4);
        DOC.dueRow(row, "2;1*2;2;1*2");
        DOC.due("turn(0, 7)", row.turn(0, 7), -1);
        DOC.due("turn(6, 1)", row.turn(6, 1), -1);
        DOC.due("turn(2, 0)", row.turn(2, 0), -1);
        DeadRuns runs = Pads.onesAndTwos(50);
        DOC.due("turn(0, 50)", runs.turn(0, 50), 50);
        DOC.due("turn(0, 50)", runs.turn(0, 50), 50);
        DOC.due("insert(25, 1, 2)", runs.insert(25, 1, 2), 52);
        DOC.due("turn(26, 26), 51 runs", runs.turn(26, 26), -4);
        DOC.due("turn(0, 27), 50 runs", runs.turn(0, 27), 50);
        DOC.due("turn(1, 51), 51 runs", runs.turn(1, 51), -4);
    }

    private static void moveWithDead() {
        DOC.says("Promise 10", "Moves a piece to another place (dead signs, too, whatever SAVE_DEAD is). This is a change.");
        for (int saveDead = 0; saveDead <= 1; saveDead++) {
            DeadRuns row = Pads.loaded("1*2;x*2;2");
            row.set(1, saveDead);
            DOC.due("move(2, 2, 0)", row.move(2, 2, 0), 3);
            DOC.dueRow(row, "x*2;1*2;2");
            DOC.due("move(0, 1, 4)", row.move(0, 1, 4), 4);
            DOC.dueRow(row, "x;1*2;2;x");
            DOC.due("move(1, 3, 2), dead ones are moved over", row.move(1, 3, 2), 3);
            DOC.dueRow(row, "x*2;1*2;2");
            DOC.due("count(8)", row.count(8), 5);
        }
    }

    private static void moveTo() {
        DOC.says("Promise 10", "`to`: the place at which it begins then, 0 to the length of the row less many");
        DeadRuns row = Pads.loaded("1;2;3;4;5");
        DOC.due("move(1, 2, 0)", row.move(1, 2, 0), 5);
        DOC.dueRow(row, "2;3;1;4;5");
        DOC.due("move(0, 2, 3)", row.move(0, 2, 3), 5);
        DOC.dueRow(row, "1;4;5;2;3");
        DOC.due("move(1, 2, 1), where it is", row.move(1, 2, 1), 5);
        DOC.dueRow(row, "1;4;5;2;3");
        DOC.due("move(3, 2, 2), one place on", row.move(3, 2, 2), 5);
        DOC.dueRow(row, "1;4;2;3;5");
        DOC.due("move(0, 5, 0), the whole row", row.move(0, 5, 0), 5);
        DOC.due("move(0, 5, 1), the whole row", row.move(0, 5, 1), -2);
        DOC.due("move(1, 2, 4)", row.move(1, 2, 4), -2);
        DOC.due("move(4, 1, 5)", row.move(4, 1, 5), -2);
        DOC.due("move(1, 2, -1)", row.move(1, 2, -1), -2);
        DOC.due("move(1, 2, LARGE)", row.move(1, 2, LARGE), -2);
        DOC.due("move(1, 2, SMALL)", row.move(1, 2, SMALL), -2);
        DOC.due("move(4, 1, 4)", row.move(4, 1, 4), 5);
        DOC.dueRow(row, "1;4;2;3;5");
    }

    private static void moveReturns() {
        DOC.says("Promise 10", "Returns how many runs there are then; NO_SUCH if there is no such piece; BAD_VALUE if to is out of range; "
            + "TOO_MANY.");
        DeadRuns row = Pads.loaded("1*2;2*2;1*2");
        DOC.due("move(2, 2, 0), joins", row.move(2, 2, 0), 2);
        DOC.due("move(0, 1, 3), splits", row.move(0, 1, 3), 4);
        DOC.due("move(0, 7, 0)", row.move(0, 7, 0), -1);
        DOC.due("move(6, 1, 0)", row.move(6, 1, 0), -1);
        DOC.due("move(0, 6, 1)", row.move(0, 6, 1), -2);
        DeadRuns full = Pads.loaded("1*1500;2*1500");
        DOC.due("move(1500, 1500, 0)", full.move(1500, 1500, 0), 2);
        DOC.dueRow(full, "2*1500;1*1500");
        DOC.due("move(2999, 1, 0)", full.move(2999, 1, 0), 3);
        DeadRuns runs = Pads.onesAndTwos(50);
        DOC.due("move(49, 1, 0)", runs.move(49, 1, 0), 50);
        DOC.due("insert(1, 1, 1)", runs.insert(1, 1, 1), 51);
        DOC.due("move(0, 1, 1), 51 runs", runs.move(0, 1, 1), -4);
        DOC.due("move(0, 1, 0), 50 runs", runs.move(0, 1, 0), 50);
        DOC.due("move(50, 1, 2), 49 runs", runs.move(50, 1, 2), 49);
    }
}
