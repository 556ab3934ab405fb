/** For each promise of the document: ordinary inputs, the edges that it names, and wrong inputs. */
public final class PromiseTest {
    private static final int LARGE = Integer.MAX_VALUE;
    private static final int SMALL = Integer.MIN_VALUE;
    /** 40 runs in 79 characters, the most that a pad holds. */
    private static final String FORTY_RUNS = "1;2;3;4;5;6;7;8;9;0;1;2;3;4;5;6;7;8;9;0;1;2;3;4;5;6;7;8;9;0;1;2;3;4;5;6;7;8;9;0";

    private static int passed = 0;
    private static int failed = 0;
    private static String promise = "";

    private PromiseTest() {
    }

    private static void due(String call, long got, long want) {
        due(call, Long.toString(got), Long.toString(want));
    }

    private static void due(String call, String got, String want) {
        if (got.equals(want)) {
            passed++;
        } else {
            failed++;
            System.out.println("promise " + promise + ": " + call + " answered " + got + ", due is " + want);
        }
    }

    private static void dueRow(DeadRuns row, String want) {
        due("the row", Pads.told(row), want);
    }

    public static void main(String[] args) {
        newObject();
        set();
        insert();
        erase();
        write();
        add();
        kill();
        revive();
        turn();
        turnWithDead();
        move();
        sign();
        ofRun();
        count();
        howMany();
        bit();
        character();
        size();
        bestCode();
        longestLive();
        find();
        bestWrite();
        unlikeMirror();
        put();
        wipe();
        fault();
        load();
        undo();
        undoAfterErrors();
        save();
        restore();
        System.out.println("promises: " + passed + " answers as due, " + failed + " not");
        if (failed != 0) {
            System.exit(1);
        }
    }

    /** 50 runs, by turns a 1 and a 2 of one sign each. */
    private static DeadRuns fiftyRuns() {
        DeadRuns row = new DeadRuns();
        for (int i = 0; i < 50; i++) {
            row.insert(i, 1 + i % 2, 1);
        }
        return row;
    }

    private static void newObject() {
        promise = "1";
        DeadRuns row = new DeadRuns();
        for (int what = 0; what <= 9; what++) {
            due("count(" + what + ")", row.count(what), 0);
        }
        due("count(10)", row.count(10), 1);
        dueRow(row, "");
        due("fault()", row.fault(), 0);
        due("undo()", row.undo(), -5);
        due("restore(0)", row.restore(0), -5);
        due("restore(1)", row.restore(1), -5);
        due("unlikeMirror()", row.unlikeMirror(), 0);
    }

    private static void set() {
        promise = "2";
        DeadRuns row = new DeadRuns();
        due("set(0, 2)", row.set(0, 2), 0);
        due("set(0, 1)", row.set(0, 1), 2);
        due("set(0, 0)", row.set(0, 0), 1);
        due("set(1, 0)", row.set(1, 0), 1);
        due("set(1, 1)", row.set(1, 1), 0);
        due("set(1, 1)", row.set(1, 1), 1);
        due("count(8)", row.count(8), 6);
        int[][] wrong = {{-1, 0}, {2, 0}, {LARGE, 0}, {SMALL, 0}, {0, -1}, {0, 3}, {1, -1}, {1, 2}, {0, LARGE}, {1, SMALL}};
        for (int[] call : wrong) {
            due("set(" + call[0] + ", " + call[1] + ")", row.set(call[0], call[1]), -2);
        }
        due("count(9)", row.count(9), 0);
        due("count(10)", row.count(10), 1);
    }

    private static void insert() {
        promise = "3";
        DeadRuns row = new DeadRuns();
        due("insert(0, 7, 4)", row.insert(0, 7, 4), 4);
        due("insert(2, 10, 3)", row.insert(2, 10, 3), 7);
        dueRow(row, "7*2;x*3;7*2");
        due("insert(7, 7, 1)", row.insert(7, 7, 1), 8);
        due("insert(2, 7, 1)", row.insert(2, 7, 1), 9);
        due("insert(3, 10, 1)", row.insert(3, 10, 1), 10);
        dueRow(row, "7*3;x*4;7*3");
        due("insert(-1, 0, 1)", row.insert(-1, 0, 1), -1);
        due("insert(11, 0, 1)", row.insert(11, 0, 1), -1);
        due("insert(11, 11, 0)", row.insert(11, 11, 0), -1);
        due("insert(0, 11, 1)", row.insert(0, 11, 1), -2);
        due("insert(0, -1, 1)", row.insert(0, -1, 1), -2);
        due("insert(0, 0, 0)", row.insert(0, 0, 0), -2);
        due("insert(0, 0, 3001)", row.insert(0, 0, 3001), -2);
        due("insert(0, 0, LARGE)", row.insert(0, 0, LARGE), -2);
        due("insert(0, 0, 2991)", row.insert(0, 0, 2991), -4);
        due("insert(0, 0, 3000)", row.insert(0, 0, 3000), -4);
        dueRow(row, "7*3;x*4;7*3");
        due("insert(0, 0, 2990)", row.insert(0, 0, 2990), 3000);
        insertAtMostRuns();
    }

    private static void insertAtMostRuns() {
        DeadRuns row = fiftyRuns();
        due("count(1)", row.count(1), 50);
        due("insert(0, 3, 1)", row.insert(0, 3, 1), -4);
        due("insert(50, 1, 1)", row.insert(50, 1, 1), -4);
        due("insert(50, 2, 2)", row.insert(50, 2, 2), 52);
        due("insert(51, 3, 1)", row.insert(51, 3, 1), -4);
        due("insert(25, 1, 5)", row.insert(25, 1, 5), 57);
        due("count(1)", row.count(1), 50);
    }

    private static void erase() {
        promise = "4";
        DeadRuns row = Pads.loaded("1*3;2*2;1*4;x;5");
        due("erase(3, 2)", row.erase(3, 2), 9);
        dueRow(row, "1*7;x;5");
        due("erase(7, 1)", row.erase(7, 1), -5);
        due("erase(0, 8)", row.erase(0, 8), -5);
        due("erase(0, 9)", row.erase(0, 9), -5);
        due("erase(8, 1)", row.erase(8, 1), 8);
        due("erase(0, 0)", row.erase(0, 0), -1);
        due("erase(0, 9)", row.erase(0, 9), -1);
        due("erase(8, 1)", row.erase(8, 1), -1);
        due("erase(-1, 2)", row.erase(-1, 2), -1);
        due("erase(1, LARGE)", row.erase(1, LARGE), -1);
        due("erase(1, 8)", row.erase(1, 8), -1);
        due("erase(7, 2)", row.erase(7, 2), -1);
        due("erase(LARGE, LARGE)", row.erase(LARGE, LARGE), -1);
        due("erase(7, -1)", row.erase(7, -1), -1);
        dueRow(row, "1*7;x");
        row.set(1, 0);
        due("erase(6, 2)", row.erase(6, 2), 6);
        due("erase(0, 6)", row.erase(0, 6), 0);
        due("erase(0, 1)", row.erase(0, 1), -1);
    }

    private static void write() {
        promise = "5";
        DeadRuns row = Pads.loaded("1*3;x*2;2*3;1");
        due("write(1, 6, 2)", row.write(1, 6, 2), 2);
        dueRow(row, "1;2*2;x*2;2*3;1");
        due("write(0, 9, 2)", row.write(0, 9, 2), 2);
        dueRow(row, "2*3;x*2;2*4");
        due("write(0, 9, 2)", row.write(0, 9, 2), 0);
        due("write(3, 2, 7)", row.write(3, 2, 7), 0);
        due("write(8, 2, 7)", row.write(8, 2, 7), -1);
        due("write(9, 1, 7)", row.write(9, 1, 7), -1);
        due("write(0, 10, 10)", row.write(0, 10, 10), -1);
        due("write(0, 9, 10)", row.write(0, 9, 10), -2);
        due("write(0, 9, -1)", row.write(0, 9, -1), -2);
        dueRow(row, "2*3;x*2;2*4");
        due("write(0, 1, 0)", row.write(0, 1, 0), 1);
        dueRow(row, "0;2*2;x*2;2*4");
        DeadRuns full = fiftyRuns();
        full.insert(0, 1, 2);
        due("write(1, 1, 5)", full.write(1, 1, 5), -4);
        due("write(0, 1, 5)", full.write(0, 1, 5), -4);
        due("write(0, 3, 5)", full.write(0, 3, 5), 3);
        due("write(3, 1, 5)", full.write(3, 1, 5), 1);
        due("count(1)", full.count(1), 49);
    }

    private static void add() {
        promise = "6";
        DeadRuns row = Pads.loaded("8*3;x*2;1*3");
        due("add(1, 6, 3)", row.add(1, 6, 3), 4);
        dueRow(row, "8;1*2;x*2;4*2;1");
        due("add(0, 8, 9)", row.add(0, 8, 9), 6);
        dueRow(row, "7;0*2;x*2;3*2;0");
        due("add(3, 2, 1)", row.add(3, 2, 1), 0);
        due("add(7, 2, 1)", row.add(7, 2, 1), -1);
        due("add(0, 0, 0)", row.add(0, 0, 0), -1);
        due("add(8, 1, 1)", row.add(8, 1, 1), -1);
        due("add(0, 1, 0)", row.add(0, 1, 0), -2);
        due("add(0, 1, 10)", row.add(0, 1, 10), -2);
        due("add(0, 1, SMALL)", row.add(0, 1, SMALL), -2);
        dueRow(row, "7;0*2;x*2;3*2;0");
        DeadRuns full = fiftyRuns();
        full.insert(0, 1, 1);
        due("add(0, 1, 1)", full.add(0, 1, 1), -4);
        due("add(0, 2, 1)", full.add(0, 2, 1), 2);
        due("count(1)", full.count(1), 49);
    }

    private static void kill() {
        promise = "7";
        DeadRuns row = Pads.loaded("8*3;x*2;1*3");
        due("kill(1, 5)", row.kill(1, 5), 3);
        dueRow(row, "8;x*5;1*2");
        due("kill(1, 5)", row.kill(1, 5), 0);
        due("kill(0, 8)", row.kill(0, 8), 3);
        dueRow(row, "x*8");
        due("kill(8, 1)", row.kill(8, 1), -1);
        due("kill(7, 2)", row.kill(7, 2), -1);
        due("kill(0, 0)", row.kill(0, 0), -1);
        due("kill(SMALL, 1)", row.kill(SMALL, 1), -1);
        DeadRuns full = fiftyRuns();
        full.insert(3, 2, 2);
        due("kill(4, 1)", full.kill(4, 1), -4);
        due("kill(2, 1)", full.kill(2, 1), 1);
        due("count(1)", full.count(1), 50);
    }

    private static void revive() {
        promise = "8";
        DeadRuns row = Pads.loaded("0*3;x*4;1*3");
        due("revive(2, 3)", row.revive(2, 3), 2);
        dueRow(row, "0*5;x*2;1*3");
        due("revive(0, 10)", row.revive(0, 10), 2);
        dueRow(row, "0*7;1*3");
        due("revive(0, 10)", row.revive(0, 10), 0);
        due("revive(0, 11)", row.revive(0, 11), -1);
        due("revive(9, 2)", row.revive(9, 2), -1);
        due("revive(10, 1)", row.revive(10, 1), -1);
        DeadRuns full = fiftyRuns();
        full.kill(0, 2);
        full.insert(1, 10, 1);
        full.insert(0, 3, 1);
        due("count(1)", full.count(1), 50);
        due("revive(2, 1)", full.revive(2, 1), -4);
        due("revive(1, 3)", full.revive(1, 3), 3);
    }

    private static void turn() {
        promise = "9";
        DeadRuns row = Pads.loaded("1*2;2;3*3;x;1");
        due("turn(1, 4)", row.turn(1, 4), 7);
        dueRow(row, "1;3*2;2;1;3;x;1");
        due("turn(0, 1)", row.turn(0, 1), 7);
    }

    private static void turnWithDead() {
        DeadRuns row = Pads.loaded("1;x;2;3;x*2;4*3");
        due("turn(0, 9)", row.turn(0, 9), 7);
        dueRow(row, "4;x;4*2;x*2;3;2;1");
        due("turn(0, 9)", row.turn(0, 9), 6);
        dueRow(row, "1;x;2;3;x*2;4*3");
        due("turn(1, 4)", row.turn(1, 4), 6);
        dueRow(row, "1;x;3;2;x*2;4*3");
        due("set(1, 0)", row.set(1, 0), 1);
        due("turn(0, 9)", row.turn(0, 9), 6);
        dueRow(row, "4*3;x*2;2;3;x;1");
        due("turn(2, 3)", row.turn(2, 3), 7);
        dueRow(row, "4*2;x*2;4;2;3;x;1");
        due("turn(9, 1)", row.turn(9, 1), -1);
        due("turn(0, 10)", row.turn(0, 10), -1);
        due("turn(8, 2)", row.turn(8, 2), -1);
        due("turn(3, 0)", row.turn(3, 0), -1);
        turnAtMostRuns();
    }

    private static void turnAtMostRuns() {
        DeadRuns twos = fiftyRuns();
        twos.insert(0, 1, 3);
        due("turn(1, 52)", twos.turn(1, 52), -4);
        dueRow(twos, "1*4;2" + ";1;2".repeat(24));
        DeadRuns withDead = fiftyRuns();
        withDead.erase(47, 3);
        withDead.insert(47, 7, 2);
        withDead.insert(49, 10, 1);
        withDead.insert(50, 8, 1);
        due("turn(47, 4)", withDead.turn(47, 4), -4);
        withDead.set(1, 0);
        due("turn(47, 4)", withDead.turn(47, 4), 50);
        due("sign(47)", withDead.sign(47), 8);
        due("sign(48)", withDead.sign(48), 10);
    }

    private static void move() {
        promise = "10";
        DeadRuns row = Pads.loaded("1*3;x*2;2*3");
        due("move(2, 2, 0)", row.move(2, 2, 0), 5);
        dueRow(row, "1;x;1*2;x;2*3");
        due("move(0, 3, 5)", row.move(0, 3, 5), 6);
        dueRow(row, "1;x;2*3;1;x;1");
        due("move(0, 8, 0)", row.move(0, 8, 0), 6);
        due("move(1, 1, 6)", row.move(1, 1, 6), 5);
        dueRow(row, "1;2*3;1;x*2;1");
        due("move(1, 3, 1)", row.move(1, 3, 1), 5);
        due("move(1, 3, 2)", row.move(1, 3, 2), 4);
        dueRow(row, "1*2;2*3;x*2;1");
        due("move(0, 0, 0)", row.move(0, 0, 0), -1);
        due("move(8, 1, -1)", row.move(8, 1, -1), -1);
        due("move(7, 2, 0)", row.move(7, 2, 0), -1);
        due("move(0, 8, 1)", row.move(0, 8, 1), -2);
        due("move(0, 3, 6)", row.move(0, 3, 6), -2);
        due("move(0, 3, -1)", row.move(0, 3, -1), -2);
        due("move(0, 3, LARGE)", row.move(0, 3, LARGE), -2);
        dueRow(row, "1*2;2*3;x*2;1");
        DeadRuns full = fiftyRuns();
        full.insert(0, 1, 1);
        due("move(50, 1, 1)", full.move(50, 1, 1), -4);
        due("move(50, 1, 0)", full.move(50, 1, 0), 50);
    }

    private static void sign() {
        promise = "11";
        DeadRuns row = Pads.loaded("0;x*2;9");
        int[] signs = {0, 10, 10, 9};
        for (int at = 0; at < signs.length; at++) {
            due("sign(" + at + ")", row.sign(at), signs[at]);
        }
        for (int at : new int[] {-1, 4, 5, LARGE, SMALL}) {
            due("sign(" + at + ")", row.sign(at), -1);
        }
        due("sign(0) of an empty row", new DeadRuns().sign(0), -1);
        DeadRuns full = fiftyRuns();
        due("sign(49)", full.sign(49), 2);
        due("sign(50)", full.sign(50), -1);
    }

    private static void ofRun() {
        promise = "12";
        DeadRuns row = Pads.loaded("5*2;x*17;0");
        int[][] want = {{5, 0, 2, 17}, {10, 2, 17, 13}, {0, 19, 1, 17}};
        for (int run = 0; run < 3; run++) {
            for (int what = 0; what < 4; what++) {
                due("ofRun(" + run + ", " + what + ")", row.ofRun(run, what), want[run][what]);
            }
            due("ofRun(" + run + ", 4)", row.ofRun(run, 4), -2);
            due("ofRun(" + run + ", -1)", row.ofRun(run, -1), -2);
        }
        row.set(0, 1);
        due("ofRun(1, 3)", row.ofRun(1, 3), 1 + 9);
        row.set(0, 2);
        due("ofRun(1, 3)", row.ofRun(1, 3), 1 + 9);
        due("ofRun(2, 3)", row.ofRun(2, 3), 5 + 1);
        for (int run : new int[] {-1, 3, LARGE, SMALL}) {
            due("ofRun(" + run + ", 0)", row.ofRun(run, 0), -1);
            due("ofRun(" + run + ", 4)", row.ofRun(run, 4), -1);
        }
    }

    private static void count() {
        promise = "13";
        DeadRuns row = Pads.loaded("5*2;x*17;0;3*10;x");
        Pads.putAll(row, "12;");
        row.set(0, 1);
        row.set(1, 0);
        int[] want = {31, 5, 18, 8 + 10 + 6 + 12 + 2, 3 + 1 + 4 + 1 + 1 + 1 + 4 + 1 + 1, 40, 17, 3, 3, 1, 0};
        for (int what = 0; what < want.length; what++) {
            due("count(" + what + ")", row.count(what), want[what]);
        }
        for (int what : new int[] {-1, 11, LARGE, SMALL}) {
            due("count(" + what + ")", row.count(what), -2);
        }
        due("count(5)", Pads.loaded("9*3000").count(5), 27000);
        due("count(6)", Pads.loaded("9*3000").count(6), 3000);
        due("count(2)", Pads.loaded("x*7;1;x").count(2), 8);
        int[] wantOfFull = {50, 50, 0, 50 * 17, 99, 75, 1, 0, 6, 0, 1};
        for (int what = 0; what < wantOfFull.length; what++) {
            due("count(" + what + ") of fifty runs", fiftyRuns().count(what), wantOfFull[what]);
        }
    }

    private static void howMany() {
        promise = "14";
        DeadRuns row = Pads.loaded("0*2;x*3;0*4;7");
        due("howMany(0, 10, 0)", row.howMany(0, 10, 0), 6);
        due("howMany(1, 6, 0)", row.howMany(1, 6, 0), 3);
        due("howMany(1, 6, 10)", row.howMany(1, 6, 10), 3);
        due("howMany(3, 1, 10)", row.howMany(3, 1, 10), 1);
        due("howMany(9, 1, 7)", row.howMany(9, 1, 7), 1);
        due("howMany(0, 9, 7)", row.howMany(0, 9, 7), 0);
        due("howMany(10, 1, 7)", row.howMany(10, 1, 7), -1);
        due("howMany(0, 11, 11)", row.howMany(0, 11, 11), -1);
        due("howMany(9, 2, 7)", row.howMany(9, 2, 7), -1);
        due("howMany(0, -1, 1)", row.howMany(0, -1, 1), -1);
        due("howMany(0, 10, 11)", row.howMany(0, 10, 11), -2);
        due("howMany(0, 10, -1)", row.howMany(0, 10, -1), -2);
    }

    private static void bit() {
        promise = "15";
        DeadRuns row = Pads.loaded("5*2;x*17;9");
        due("the bits by 0", Pads.bits(row), "00101" + "000000000010" + "1" + "000000010001" + "01001" + "000000000001");
        row.set(0, 1);
        due("the bits by 1", Pads.bits(row), "00101" + "010" + "1" + "000010001" + "01001" + "1");
        row.set(0, 2);
        due("the bits by 2", Pads.bits(row), "00101" + "0100" + "1" + "001010001" + "01001" + "1");
        due("bit(-1)", row.bit(-1), -1);
        due("bit(SMALL)", row.bit(SMALL), -1);
        due("bit(LARGE)", row.bit(LARGE), -1);
        due("bit(count(3))", row.bit(row.count(3)), -1);
        due("bit(0) of an empty row", new DeadRuns().bit(0), -1);
        DeadRuns longRow = Pads.loaded("x*3000");
        due("the bits by 0", Pads.bits(longRow), "1" + "101110111000");
        longRow.set(0, 2);
        due("the bits by 2", Pads.bits(longRow), "1" + "0001100" + "01110111000");
        DeadRuns three = Pads.loaded("x*3;x*4;8*6");
        three.set(0, 2);
        due("the bits by 2", Pads.bits(three), "1" + "01111" + "01000" + "01110");
        due("bit(850) of fifty runs", fiftyRuns().bit(850), -1);
    }

    private static void character() {
        promise = "16";
        DeadRuns row = Pads.loaded("0;x*2999");
        dueRow(row, "0;x*2999");
        due("character(1)", row.character(1), ';');
        due("character(8)", row.character(8), -1);
        due("character(-1)", row.character(-1), -1);
        due("character(LARGE)", row.character(LARGE), -1);
        due("character(SMALL)", row.character(SMALL), -1);
        dueRow(Pads.loaded("9*9;8*10;7*99;6*100;5*999;4*1000"), "9*9;8*10;7*99;6*100;5*999;4*1000");
        dueRow(Pads.loaded("1*1;1;2*1"), "1*2;2");
        due("character(0) of an empty row", new DeadRuns().character(0), -1);
        due("character(98) of fifty runs", fiftyRuns().character(98), '2');
        due("character(99) of fifty runs", fiftyRuns().character(99), -1);
    }

    private static void size() {
        promise = "17";
        DeadRuns row = Pads.loaded("5*2;x*17;9");
        int[] want = {17 + 13 + 17, 8 + 10 + 6, 9 + 10 + 6};
        for (int code = 0; code < 3; code++) {
            due("size(" + code + ")", row.size(code), want[code]);
        }
        row.set(0, 2);
        due("size(0)", row.size(0), want[0]);
        for (int code : new int[] {-1, 3, LARGE, SMALL}) {
            due("size(" + code + ")", row.size(code), -2);
        }
        due("size(2) of an empty row", new DeadRuns().size(2), 0);
    }

    private static void bestCode() {
        promise = "18";
        due("bestCode() of an empty row", new DeadRuns().bestCode(), 0);
        due("bestCode() of 1 sign", Pads.loaded("1").bestCode(), 1);
        due("bestCode() of 17 signs: 12, 9, 9", Pads.loaded("1*17").bestCode(), 1);
        due("bestCode() of 64 signs: 12, 13, 11", Pads.loaded("1*64").bestCode(), 2);
        due("bestCode() of 128 signs: 12, 15, 14", Pads.loaded("1*128").bestCode(), 0);
        due("bestCode() of 12 + 12 each", Pads.loaded("1*3000").bestCode(), 0);
    }

    private static void longestLive() {
        promise = "19";
        DeadRuns row = Pads.loaded("x;1;2;0;x*9;3*3;x;4*2;5");
        due("longestLive(0)", row.longestLive(0), 1);
        due("longestLive(1)", row.longestLive(1), 3);
        row.insert(20, 7, 1);
        due("longestLive(0)", row.longestLive(0), 17);
        due("longestLive(1)", row.longestLive(1), 4);
        due("longestLive(2)", row.longestLive(2), -2);
        due("longestLive(-1)", row.longestLive(-1), -2);
        due("longestLive(0) of an empty row", new DeadRuns().longestLive(0), -6);
        due("longestLive(2) of an empty row", new DeadRuns().longestLive(2), -2);
        due("longestLive(1) of dead ones", Pads.loaded("x*5").longestLive(1), -6);
        due("longestLive(1) of live ones", Pads.loaded("0*5").longestLive(1), 5);
        due("longestLive(1) of fifty runs", fiftyRuns().longestLive(1), 50);
    }

    private static void find() {
        promise = "20";
        DeadRuns row = Pads.loaded("1*3;0*2;x;1;0*12;1*2;2");
        int[][] calls = {{0, 110, 1}, {2, 110, -6}, {0, 10, 2}, {3, 10, 6}, {0, 100, 2}, {0, 1000, 6}, {0, 112, 19}, {20, 12, 20},
            {21, 12, -6}, {0, 1, 0}, {1, 1, 1}, {3, 1, 6}, {0, 11, 0}, {1, 11, 1}, {2, 11, 19}, {0, 111, 0}, {0, 1111, -6},
            {0, 11100, 0}, {0, 111000, -6}, {0, 2, 21}, {22, 2, -6}, {LARGE, 2, -6}, {0, 100000000, 6}, {0, 999999999, -6},
            {-1, 1, -2}, {SMALL, 1, -2}, {0, 0, -2}, {0, -5, -2}, {0, 1000000000, -2}, {LARGE, 0, -2}};
        for (int[] call : calls) {
            due("find(" + call[0] + ", " + call[1] + ")", row.find(call[0], call[1]), call[2]);
        }
        due("find in an empty row", new DeadRuns().find(0, 1), -6);
        due("find in fifty runs", fiftyRuns().find(42, 12121212), 42);
        due("find in fifty runs", fiftyRuns().find(43, 12121212), -6);
        due("a dead sign is no 0", Pads.loaded("1;x").find(0, 10), -6);
        due("nine in the midst", Pads.loaded("7*2990;1;2").find(0, 777777712), 2983);
    }

    private static void dueBestWrite(DeadRuns row, int run, int value, int saved) {
        due("bestWrite(0)", row.bestWrite(0), run);
        due("bestWrite(1)", row.bestWrite(1), value);
        due("bestWrite(2)", row.bestWrite(2), saved);
    }

    private static void bestWrite() {
        promise = "21";
        dueBestWrite(Pads.loaded("1;2;1;3"), 1, 1, 34);
        dueBestWrite(Pads.loaded("1;2;3"), 0, 2, 17);
        dueBestWrite(Pads.loaded("x;5;4;3"), 1, 4, 17);
        dueBestWrite(Pads.loaded("x;5;x;4;6;3;x"), 3, 6, 17);
        dueBestWrite(Pads.loaded("x;2;x;4;x"), -6, -6, -6);
        dueBestWrite(new DeadRuns(), -6, -6, -6);
        DeadRuns row = Pads.loaded("4*3;2;7*3;1");
        dueBestWrite(row, 0, 2, 17);
        row.set(0, 1);
        // 3 and 1 to 4: 8 + 6 - 10; 1 and 3 to 4: 6 + 8 - 10.
        dueBestWrite(row, 0, 2, 4);
        DeadRuns values = Pads.loaded("x;3;9;1;x");
        values.set(0, 2);
        due("bestWrite(0)", values.bestWrite(0), 0 + 1);
        due("bestWrite(1)", values.bestWrite(1), 9);
        due("bestWrite(1), the least value", Pads.loaded("x;9;x;3;3;x;8;1;8").bestWrite(1), 8);
        DeadRuns both = Pads.loaded("6*2;5*2;3*2");
        both.move(0, 2, 2);
        due("bestWrite(1), the least value", both.bestWrite(1), 6);
        dueBestWrite(Pads.loaded("x;5;x;7;4;7;2"), 4, 7, 34);
        int[] wrong = {-1, 3, LARGE, SMALL};
        for (int what : wrong) {
            due("bestWrite(" + what + ")", both.bestWrite(what), -2);
            due("bestWrite(" + what + ") of an empty row", new DeadRuns().bestWrite(what), -2);
        }
        bestWriteBetweenTwo();
    }

    /** Where lengths take bits by their width, the joins do not all save the same. */
    private static void bestWriteBetweenTwo() {
        DeadRuns later = Pads.loaded("1;2;x;3*3;4*3;x");
        later.set(0, 1);
        // 1 and 1 to 2: 6 + 6 - 8; 3 and 3 to 6: 8 + 8 - 10.
        dueBestWrite(later, 3, 4, 6);
        DeadRuns leftOrRight = Pads.loaded("0*6;1*2;2;x");
        leftOrRight.set(0, 1);
        // 6 and 2 to 8: 10 + 8 - 12; 2 and 1 to 3: 8 + 6 - 8; so 2 to 1 with 2 saves 6 as 6 to 2 does.
        dueBestWrite(leftOrRight, 0, 1, 6);
        DeadRuns zero = Pads.loaded("x;3;0;x");
        dueBestWrite(zero, 1, 0, 17);
        DeadRuns ofLeft = Pads.loaded("0*63;5;0*3;1;x");
        ofLeft.set(0, 1);
        // 63 and 1 and 3 to 67: 16 + 6 + 8 - 18; any other join has one run less.
        dueBestWrite(ofLeft, 1, 0, 12);
        dueBestWrite(fiftyRuns(), 1, 1, 34);
        DeadRuns row = Pads.loaded("x;4*2;9*2;2*2;x");
        dueBestWrite(row, 1, 9, 17);
        row.kill(1, 1);
        row.insert(3, 4, 5);
        row.set(0, 1);
        // x*2 4*6 9*2 2*2 x: 4 and 9 join to 8 for 5 + 5 + 5 + 3 - 5 - 7, 9 and 2 to 4 for 5 + 3 + 5 + 3 - 5 - 5.
        dueBestWrite(row, 1, 9, 6);
        due("undo(), so that nothing was changed", row.undo(), 3);
    }

    private static void unlikeMirror() {
        promise = "22";
        due("unlikeMirror() of 1 2 3", Pads.loaded("1;2;3").unlikeMirror(), 2);
        due("unlikeMirror() of 1 2 1", Pads.loaded("1;2;1").unlikeMirror(), 0);
        due("unlikeMirror() of 0 x", Pads.loaded("0;x").unlikeMirror(), 2);
        due("unlikeMirror() of x*5 1*2 x*3", Pads.loaded("x*5;1*2;x*3").unlikeMirror(), 4);
        due("unlikeMirror() of 1*1500 2*1500", Pads.loaded("1*1500;2*1500").unlikeMirror(), 3000);
        due("unlikeMirror() of an empty row", new DeadRuns().unlikeMirror(), 0);
        due("unlikeMirror() of fifty runs", fiftyRuns().unlikeMirror(), 50);
    }

    private static void put() {
        promise = "23";
        DeadRuns row = new DeadRuns();
        due("put(!)", row.put(33), 1);
        due("put(~)", row.put(126), 2);
        due("put(8 characters)", row.put(Pads.packed("12345678")), 10);
        long[] wrong = {0, 32, 127, 255, 256, 0x3100, 0x310031L, 0x3120L, 0x2031L, 0x7f31L, -1, Long.MIN_VALUE, Long.MAX_VALUE,
            0x3100000000000031L, 0x3131313131313100L, 0x8031313131313131L, 0x0100000000000031L, 0x0031313131313120L};
        for (long characters : wrong) {
            due("put(" + characters + ")", row.put(characters), -2);
        }
        due("count(7)", row.count(7), 10);
        for (int i = 2; i < 10; i++) {
            due("put(8 characters)", row.put(Pads.packed("1;2;3;4;")), 8 * i + 2);
        }
        due("put(8 characters)", row.put(Pads.packed("1;2;3;4;")), -4);
        due("put(7 characters)", row.put(Pads.packed("1;2;3;4")), -4);
        due("put(32) with a full pad", row.put(32), -2);
        due("put(6 characters)", row.put(Pads.packed("1;2;3;")), 80);
        due("put(1 character)", row.put(Pads.packed("1")), -4);
        due("put(0) with a full pad", row.put(0), -2);
        due("count(8)", row.count(8), 0);
        DeadRuns order = new DeadRuns();
        order.put(Pads.packed("1;2"));
        order.put(Pads.packed(";x*3"));
        order.load();
        dueRow(order, "1;2;x*3");
    }

    private static void wipe() {
        promise = "24";
        DeadRuns row = Pads.loaded("1;2");
        due("wipe()", row.wipe(), 0);
        Pads.putAll(row, "1;2;3;4;5");
        due("wipe()", row.wipe(), 9);
        due("wipe()", row.wipe(), 0);
        due("count(7)", row.count(7), 0);
        due("count(8)", row.count(8), 1);
        dueRow(row, "1;2");
    }

    private static void fault() {
        promise = "25";
        Object[][] texts = {{"", 0}, {"1", -6}, {"x", -6}, {"X", 0}, {";", 0}, {"*", 0}, {"a", 0}, {"12", 1}, {"1x", 1}, {"xx", 1},
            {"1;", 2}, {"1;;", 2}, {"1*", 2}, {"1*0", 2}, {"1*x", 2}, {"1*;", 2}, {"1**", 2}, {"1*1*", 3}, {"1*1x", 3}, {"1*10", -6},
            {"1*3000", -6}, {"1*3001", 5}, {"1*30000", 6}, {"1*301", -6}, {"1*3010", 5}, {"1*4000", 5}, {"1*999", -6}, {"1*9990", 5},
            {"1*2999;x*1", -6}, {"1*05", 2}, {"1*5;*", 4}, {"0;x*2;", 6}, {"1*3000;2*3000", -6}, {"1:2", 1}, {"/", 0}, {":", 0},
            {"1*/", 2}, {"1*1:", 3}, {"1;1;1", -6}, {FORTY_RUNS, -6}, {FORTY_RUNS + ";", 80}};
        for (Object[] text : texts) {
            DeadRuns row = new DeadRuns();
            Pads.putAll(row, (String) text[0]);
            due("fault() of " + text[0], row.fault(), (Integer) text[1]);
            due("fault() of " + text[0] + ", again", row.fault(), (Integer) text[1]);
            due("count(7)", row.count(7), ((String) text[0]).length());
            due("count(8)", row.count(8), 0);
            dueRow(row, "");
        }
    }

    private static void load() {
        promise = "26";
        DeadRuns row = new DeadRuns();
        due("load() of an empty pad", row.load(), -3);
        Pads.putAll(row, "1;1*2;x;x;2*3;x");
        due("load()", row.load(), 4);
        dueRow(row, "1*3;x*2;2*3;x");
        due("count(7)", row.count(7), 0);
        due("load() of an empty pad", row.load(), -3);
        Pads.putAll(row, "1;2;");
        due("load() of a pad with a fault", row.load(), -3);
        due("count(7)", row.count(7), 4);
        row.wipe();
        Pads.putAll(row, "1*3000;x");
        due("load() of 3001 signs", row.load(), -4);
        due("count(7)", row.count(7), 8);
        dueRow(row, "1*3;x*2;2*3;x");
        due("count(8)", row.count(8), 1);
        row.wipe();
        Pads.putAll(row, "1*3000;1*3000;1*3000;1*3000;1*3000;1*3000;1*3000;1*3000;1*3000;1*3000;1*3000");
        due("load() of 33000 signs", row.load(), -4);
        row.wipe();
        Pads.putAll(row, FORTY_RUNS);
        row.set(0, 2);
        due("load() of 40 runs", row.load(), 40);
        due("count(9), as before", row.count(9), 2);
        due("undo()", row.undo(), 2);
        dueRow(row, "1*3;x*2;2*3;x");
        due("count(7)", row.count(7), 0);
        Pads.putAll(row, "1*1500;x*1500");
        due("load() of 3000 signs", row.load(), 2);
    }

    private static void undo() {
        promise = "27";
        DeadRuns row = new DeadRuns();
        row.insert(0, 1, 5);
        row.set(0, 2);
        row.set(1, 0);
        row.write(0, 1, 1);
        due("count(8)", row.count(8), 4);
        due("undo()", row.undo(), 3);
        dueRow(row, "1*5");
        due("undo()", row.undo(), 2);
        due("count(10)", row.count(10), 1);
        due("count(9)", row.count(9), 2);
        due("undo()", row.undo(), 1);
        due("count(9)", row.count(9), 0);
        due("undo()", row.undo(), 0);
        dueRow(row, "");
        due("undo()", row.undo(), -5);
        for (int i = 0; i < 9; i++) {
            row.insert(0, i, 1);
            due("count(8)", row.count(8), Math.min(6, i + 1));
        }
        for (int i = 5; i >= 0; i--) {
            due("undo()", row.undo(), i);
        }
        dueRow(row, "2;1;0");
        due("undo()", row.undo(), -5);
        row.kill(0, 1);
        due("undo()", row.undo(), 0);
        dueRow(row, "2;1;0");
    }

    private static void undoAfterErrors() {
        DeadRuns row = Pads.loaded("1;x;2");
        row.erase(1, 1);
        row.set(0, 3);
        row.insert(4, 0, 1);
        row.insert(0, 0, 3000);
        row.load();
        row.restore(0);
        row.save(0);
        row.wipe();
        due("count(8) after errors and calls that are no changes", row.count(8), 1);
        row.revive(0, 1);
        row.turn(0, 1);
        row.move(0, 1, 0);
        row.restore(0);
        due("count(8) after changes that change nothing", row.count(8), 5);
        due("undo()", row.undo(), 4);
        dueRow(row, "1;x;2");
    }

    private static void save() {
        promise = "28";
        DeadRuns row = Pads.loaded("1;x;2");
        due("save(0)", row.save(0), 3);
        row.insert(0, 5, 4);
        row.set(0, 1);
        due("save(1)", row.save(1), 7);
        for (int slot : new int[] {-1, 2, LARGE, SMALL}) {
            due("save(" + slot + ")", row.save(slot), -2);
        }
        due("count(8), as no save is a change", row.count(8), 3);
        row.kill(0, 1);
        row.restore(0);
        dueRow(row, "1;x;2");
        due("save(1)", row.save(1), 3);
        row.erase(0, 1);
        row.restore(1);
        dueRow(row, "1;x;2");
        due("save(0) of an empty row", new DeadRuns().save(0), 0);
    }

    private static void restore() {
        promise = "29";
        DeadRuns row = Pads.loaded("1;x;2");
        due("restore(0)", row.restore(0), -5);
        row.set(0, 2);
        row.set(1, 0);
        row.save(1);
        due("restore(0)", row.restore(0), -5);
        row.set(0, 1);
        row.set(1, 1);
        row.insert(3, 10, 9);
        Pads.putAll(row, "1;");
        due("restore(1)", row.restore(1), 3);
        dueRow(row, "1;x;2");
        due("count(9)", row.count(9), 2);
        due("count(10)", row.count(10), 0);
        due("count(7)", row.count(7), 2);
        row.kill(0, 3);
        due("restore(1), which the slot keeps", row.restore(1), 3);
        dueRow(row, "1;x;2");
        due("undo()", row.undo(), 5);
        dueRow(row, "x*3");
        due("undo()", row.undo(), 4);
        due("undo()", row.undo(), 3);
        dueRow(row, "1;x;2;x*9");
        due("count(9)", row.count(9), 1);
        due("restore(1)", row.restore(1), 3);
        for (int slot : new int[] {-1, 2, LARGE, SMALL}) {
            due("restore(" + slot + ")", row.restore(slot), -2);
        }
    }
}
