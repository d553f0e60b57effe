/** The edges of a new object, of changes and undoing, the output and the snapshot: promises 1 and 53 to 58. */
final class HistoryEdges {
    private HistoryEdges() {
    }

    static void check() {
        newObject();
        changes();
        noChanges();
        latestEight();
        writing();
        outputBytes();
        undoableCount();
        undoing();
        undoLeaves();
        snapshots();
        restoring();
    }

    private static void says(String sentence) {
        Sentences.says(Sentences.TERMS, sentence);
    }

    private static void newObject() {
        Sentences.says(1, "Creates the bench \"bench 22 18 5;sheet 10 dough 60 butter 40 dough 60;sheet 20 dough 30 butter 9 dough 25 "
                + "butter 3 dough 30;\", with an empty input buffer and an empty output.");
        PastryBench bench = new PastryBench();
        PastryBench loaded = Check.benchOf("bench 22 18 5;sheet 10 dough 60 butter 40 dough 60;sheet 20 dough 30 butter 9 dough 25 "
                + "butter 3 dough 30;");
        Check.same("the bench", Check.told(bench), Check.told(loaded));
        Check.badArgument(bench, "an empty buffer", () -> bench.loadBench(1));
        Check.badArgument(bench, "an empty buffer", () -> bench.runScript(1));
        Check.same("the first bytes", bench.appendText(0, 0, 0, 0, 0), 20);
        Check.noSheet(bench, "an empty output", () -> bench.outputByte(0));
        Sentences.says(1, "Nothing is dusted, sealed or in the refrigerator, and nothing can be undone.");
        Check.same("flags", Check.flags(bench, 0) + Check.flags(bench, 1), "");
        Check.same("to undo", bench.undoableCount(), 0);
        Check.badState(bench, "undo", bench::undo);
        Check.badState(bench, "no snapshot", bench::restoreSnapshot);
    }

    private interface Change {
        int on(PastryBench bench);
    }

    private static PastryBench cooled() {
        PastryBench bench = Edge.sheets(3);
        Check.script(bench, "cool 2;");
        return bench;
    }

    private static void changes() {
        says("The methods fold, roll, dust, seal, cool, takeOut, passHours, cut, stack, addButter, buyFlour and runScript change the bench.");
        Change[] all = {bench -> bench.fold(0, 2), bench -> bench.roll(0, 2), bench -> bench.dust(0), bench -> bench.seal(0),
            bench -> bench.cool(0), bench -> bench.takeOut(2), bench -> bench.passHours(1), bench -> bench.cut(0),
            bench -> bench.stack(0, 1), bench -> bench.addButter(0, 1), bench -> bench.buyFlour(1),
            bench -> Check.script(bench, "wait 1;")};
        for (int i = 0; i < all.length; i++) {
            PastryBench bench = cooled();
            String before = Check.toldBench(bench);
            all[i].on(bench);
            Check.same("change " + i + " counts", bench.undoableCount(), 2);
            Check.same("change " + i + " differs", Check.toldBench(bench).equals(before), false);
            Check.same("undo " + i, bench.undo(), 1);
            Check.same("undone " + i, Check.toldBench(bench), before);
        }
        says("Each call of one of them that returns normally is a change, even if nothing is different afterwards.");
        PastryBench hot = Check.benchOf("bench 20 18 5;sheet 40 dough 1 dough 1;");
        String before = Check.toldBench(hot);
        for (int i = 1; i <= 9; i++) {
            hot.roll(0, 4);
            Check.same("nothing is different", Check.toldBench(hot), before);
            Check.same("rolls", hot.undoableCount(), Math.min(8, i));
        }
        PastryBench empty = Check.benchOf("bench 20 18 5;");
        empty.buyFlour(50);
        empty.runScript(0);
        Check.same("an empty script", empty.undoableCount(), 2);
        Check.same("undone", empty.undo() * 100 + empty.flour(), 155);
    }

    private static void noChanges() {
        says("A call of runScript that reports a parse error is not a change.");
        String[] wrong = {"dust 0", "dust 9;", "wait 1;".repeat(21), "dust 0;x"};
        for (String script : wrong) {
            PastryBench bench = cooled();
            Check.same(script, Check.script(bench, script), -1);
            Check.same(script, bench.undoableCount(), 1);
            bench.undo();
            Check.same("the change before it", bench.isCooling(2), false);
        }
        says("A script is one change, even if none of its commands is executed.");
        String[] scripts = {"", "dust 5;", "dust 0;", "dust 0;dust 0;", "dust 0;seal 1;wait 3;cut 1;", "wait 1;".repeat(20)};
        for (String script : scripts) {
            PastryBench bench = cooled();
            String before = Check.toldBench(bench);
            Check.script(bench, script);
            Check.same("one change", bench.undoableCount(), 2);
            Check.same("undone at once", bench.undo(), 1);
            Check.same("the whole of it", Check.toldBench(bench), before);
        }
        Check.about("promises 2, 3, 53, 54 and 57: nothing else is a change");
        PastryBench bench = cooled();
        bench.appendText(0, 0, 0, 0, 0);
        bench.loadBench(20);
        bench.writeSheet(0);
        bench.outputByte(0);
        bench.saveSnapshot();
        Check.same("the one before", bench.undoableCount(), 1);
    }

    private static void latestEight() {
        says("The latest 8 changes can be undone, the latest one first.");
        for (int changes = 0; changes <= 20; changes++) {
            PastryBench bench = new PastryBench();
            for (int i = 1; i <= changes; i++) {
                bench.passHours(i);
            }
            int undoable = Math.min(8, changes);
            Check.same("undoable of " + changes, bench.undoableCount(), undoable);
            for (int i = 1; i <= undoable; i++) {
                int left = changes - i;
                Check.same("left", bench.undo(), undoable - i);
                Check.same("the latest first", bench.hoursPassed(), left * (left + 1) / 2);
            }
            Check.badState(bench, "no more than 8 of " + changes, bench::undo);
        }
        says("An older change cannot be undone any more.");
        PastryBench bench = new PastryBench();
        for (int i = 0; i < 9; i++) {
            bench.passHours(1);
        }
        bench.undo();
        bench.undo();
        bench.buyFlour(1);
        Check.same("6 and 1", bench.undoableCount(), 7);
        bench.buyFlour(1);
        bench.buyFlour(1);
        Check.same("at most 8", bench.undoableCount(), 8);
        for (int i = 7; i >= 0; i--) {
            Check.same("left", bench.undo(), i);
        }
        Check.badState(bench, "the oldest are gone", bench::undo);
        Check.same("two hours stay", bench.hoursPassed() * 10 + bench.flour(), 25);
    }

    private static void written(PastryBench bench, int sheet, String due) {
        Check.same(due, bench.writeSheet(sheet), due.length());
        Check.same("the output", Check.output(bench), due);
    }

    private static void writing() {
        Sentences.says(53, "Writes a sheet to the output, which is replaced: for each layer, from the top to the bottom, the byte D (68) for dough "
                + "or B (66) for butter, followed by its thickness in decimal; layers are separated by spaces.");
        PastryBench bench = Check.benchOf("bench 1 9 9;sheet 1 dough 1 butter 9 dough 10 butter 99 dough 100 butter 399 dough 400;"
                + "sheet 1 dough 250;sheet 1 butter 333;sheet 1 butter 1;");
        written(bench, 0, "D400 B399 D100 B99 D10 B9 D1");
        written(bench, 3, "B1");
        written(bench, 1, "D250");
        bench.fold(2, 3);
        written(bench, 2, "B999");
        bench.addButter(2, 1);
        written(bench, 2, "B1000");
        bench.addButter(2, 9);
        written(bench, 2, "B1009");
        bench.fold(1, 4);
        bench.fold(1, 4);
        written(bench, 1, "D4000");
        bench.fold(0, 2);
        written(bench, 0, "D1 B9 D10 B99 D100 B399 D800 B399 D100 B99 D10 B9 D1");
        Sentences.says(53, "Returns the number of bytes of the output.");
        Check.same("the shortest", bench.writeSheet(3), 2);
        PastryBench full = Edge.onFlour(200);
        Check.same("200 layers", full.writeSheet(0), 200 * 3 - 1);
        Check.same("the last byte", full.outputByte(598), '1' + 0);
        PastryBench longest = longest();
        written(longest, 0, "B20 ".repeat(199) + "D20");
        Edge.sheetIndex(53, (any, sheet) -> Check.same("bytes", any.writeSheet(sheet), 8));
    }

    /** 200 layers, 4000 high: no output is longer. */
    private static PastryBench longest() {
        PastryBench bench = Check.benchOf("bench 1 9 9;sheet 1 dough 20;");
        bench.dust(0);
        for (int i = 0; i < 199; i++) {
            bench.addButter(0, 20);
        }
        Check.same("height", bench.height(0) + bench.layerCount(0), 4200);
        return bench;
    }

    private static void outputBytes() {
        Sentences.says(54, "Returns a byte of the output.");
        PastryBench bench = new PastryBench();
        bench.writeSheet(0);
        Sentences.says(54, "Returns the byte.");
        int[] due = {'D', '6', '0', ' ', 'B', '4', '0', ' ', 'D', '6', '0'};
        for (int i = 0; i < due.length; i++) {
            Check.same("byte " + i, bench.outputByte(i), due[i]);
        }
        Sentences.says(54, "The output changes in writeSheet only.");
        outputStays(bench);
        Sentences.says(54, "Throws `IndexOutOfBoundsException` if there is no such byte");
        int[] wrong = {-1, 11, 12, 1200, Integer.MIN_VALUE, Integer.MAX_VALUE};
        for (int index : wrong) {
            Check.noSheet(bench, "byte " + index, () -> bench.outputByte(index));
        }
        bench.writeSheet(1);
        Check.accepts("the longer one's last", () -> bench.outputByte(16));
        Check.noSheet(bench, "behind it", () -> bench.outputByte(17));
        Check.load(bench, "bench 1 5 0;sheet 1 butter 7;");
        bench.writeSheet(0);
        Check.accepts("the shorter one's last", () -> bench.outputByte(1));
        Check.noSheet(bench, "behind it", () -> bench.outputByte(2));
        PastryBench never = new PastryBench();
        Check.noSheet(never, "before the first output", () -> never.outputByte(0));
        Check.noSheet(never, "before the first output", () -> never.outputByte(-1));
        PastryBench full = longest();
        full.writeSheet(0);
        Check.same("the last of the longest", full.outputByte(798), '0' + 0);
        Check.noSheet(full, "behind the longest", () -> full.outputByte(799));
    }

    private static void outputStays(PastryBench bench) {
        Check.noSheet(bench, "a refused writeSheet", () -> bench.writeSheet(2));
        Check.script(bench, "dust 0;fold 0 2;roll 0 2;seal 0;cool 0;wait 1;takeout 0;cut 0;stack 0 2;");
        bench.addButter(0, 1);
        bench.buyFlour(1);
        bench.undo();
        bench.saveSnapshot();
        bench.undo();
        bench.restoreSnapshot();
        Check.load(bench, "bench");
        Check.load(bench, "bench 22 18 5;sheet 10 butter 1;sheet 20 dough 30 butter 9 dough 25 butter 3 dough 30;");
        Check.same("the first output", Check.output(bench), "D60 B40 D60");
    }

    private static void undoableCount() {
        Sentences.says(55, "Returns the number of changes that can be undone.");
        PastryBench bench = new PastryBench();
        bench.dust(0);
        Check.same("one", bench.undoableCount(), 1);
        Sentences.says(55, "Returns 0 to 8.");
        PastryBench counted = new PastryBench();
        for (int i = 0; i <= 17; i++) {
            Check.same("after " + i, counted.undoableCount(), Math.min(8, i));
            counted.passHours(1);
        }
        for (int i = 8; i > 0; i--) {
            Check.same("before undoing " + i, counted.undoableCount(), i);
            counted.undo();
        }
        Check.same("none", counted.undoableCount(), 0);
    }

    private static void undoing() {
        Sentences.says(56, "Undoes the latest change: the bench becomes as it was before it.");
        PastryBench bench = Edge.sheets(3);
        Check.script(bench, "cool 2;wait 3;seal 1;dust 0;");
        String[] before = new String[8];
        Change[] all = {any -> any.roll(1, 2), any -> any.fold(0, 2), any -> any.takeOut(2), any -> any.stack(1, 2), any -> any.cut(0),
            any -> any.passHours(24), any -> any.addButter(1, 5), any -> any.buyFlour(5)};
        for (int i = 0; i < 8; i++) {
            before[i] = Check.toldBench(bench);
            all[i].on(bench);
        }
        for (int i = 7; i >= 0; i--) {
            Check.same("left", bench.undo(), i);
            Check.same("before " + i, Check.toldBench(bench), before[i]);
        }
        Sentences.says(56, "Returns the number of changes that can still be undone.");
        bench.dust(1);
        Check.same("none", bench.undo(), 0);
        for (int i = 0; i < 8; i++) {
            bench.passHours(1);
        }
        Check.same("seven", bench.undo(), 7);
        Sentences.says(56, "Throws `IllegalStateException` if there is nothing to undo");
        PastryBench fresh = new PastryBench();
        Check.badState(fresh, "a new object", fresh::undo);
        fresh.dust(0);
        Check.accepts("one change", fresh::undo);
        Check.badState(fresh, "undone", fresh::undo);
        fresh.dust(0);
        Check.load(fresh, "bench 1 5 0;");
        Check.badState(fresh, "loaded", fresh::undo);
        fresh.saveSnapshot();
        fresh.buyFlour(1);
        fresh.restoreSnapshot();
        Check.badState(fresh, "restored", fresh::undo);
        Check.accepts("a change", () -> fresh.buyFlour(1));
        Check.accepts("its undoing", fresh::undo);
    }

    private static void undoLeaves() {
        Sentences.says(56, "The input buffer, the parse error, the output and the snapshot are not affected.");
        PastryBench bench = new PastryBench();
        bench.saveSnapshot();
        bench.dust(0);
        bench.dust(1);
        Check.load(bench, "bench 99");
        bench.writeSheet(1);
        Check.type(bench, "seal 1;");
        bench.undo();
        Check.error("the parse error", bench, 2, 6);
        Check.same("the output", Check.output(bench), "D30 B3 D25 B9 D30");
        Check.badArgument(bench, "the buffer", () -> bench.runScript(21));
        Check.same("the buffer", bench.runScript(20), 1);
        bench.undo();
        Check.same("the emptied buffer", bench.appendText(0, 0, 0, 0, 0), 20);
        Check.error("the script's parse error", bench, 0, -1);
        bench.undo();
        bench.passHours(1);
        Check.same("the snapshot", bench.restoreSnapshot(), 2);
        Check.same("as it was saved", Check.toldBench(bench), Check.toldBench(new PastryBench()));
    }

    private static void snapshots() {
        Sentences.says(57, "Saves a snapshot of the bench, including its counts.");
        PastryBench bench = Check.benchOf("bench 20 18 5;sheet 25 dough 9 butter 3 dough 9;sheet 1 dough 1;");
        bench.roll(0, 2);
        bench.fold(1, 2);
        bench.passHours(3);
        bench.dust(0);
        bench.seal(0);
        bench.cool(1);
        String saved = Check.toldBench(bench);
        Check.same("counts", bench.escapedButter() * 100 + bench.brokenLayers() * 10 + bench.hoursPassed(), 313);
        bench.saveSnapshot();
        Check.same("nothing changes", Check.toldBench(bench) + bench.undoableCount(), saved + 6);
        bench.takeOut(1);
        bench.stack(0, 1);
        bench.passHours(24);
        bench.buyFlour(1);
        bench.restoreSnapshot();
        Check.same("restored", Check.toldBench(bench), saved);
        Sentences.says(57, "An earlier snapshot is replaced.");
        bench.cut(0);
        bench.saveSnapshot();
        bench.undo();
        Check.same("the later one", bench.restoreSnapshot(), 3);
        bench.stack(0, 2);
        bench.saveSnapshot();
        bench.undo();
        Check.same("the latest one", bench.restoreSnapshot(), 2);
        Check.same("its first sheet", Check.layers(bench, 0), "D8 D8");
    }

    private static void restoring() {
        Sentences.says(58, "Restores the snapshot, which is kept.");
        PastryBench bench = Edge.sheets(2);
        bench.saveSnapshot();
        String saved = Check.toldBench(bench);
        for (int i = 0; i < 3; i++) {
            bench.passHours(5);
            bench.fold(0, 2);
            bench.cut(0);
            Check.same("restored", bench.restoreSnapshot(), 2);
            Check.same("as it was", Check.toldBench(bench), saved);
        }
        Check.same("at once again", bench.restoreSnapshot(), 2);
        Sentences.says(58, "The undo history is cleared.");
        for (int i = 0; i < 9; i++) {
            bench.passHours(1);
        }
        bench.restoreSnapshot();
        Check.same("nothing to undo", bench.undoableCount(), 0);
        Check.badState(bench, "undo", bench::undo);
        bench.passHours(1);
        Check.same("from anew", bench.undo(), 0);
        Check.same("as restored", Check.toldBench(bench), saved);
        Sentences.says(58, "Returns the number of sheets afterwards.");
        for (int sheets = 0; sheets <= 6; sheets++) {
            PastryBench counted = Edge.sheets(sheets);
            counted.saveSnapshot();
            Check.same("sheets", counted.restoreSnapshot(), sheets);
        }
        PastryBench fewer = Edge.sheets(2);
        fewer.saveSnapshot();
        fewer.stack(0, 1);
        Check.same("more than before", fewer.restoreSnapshot(), 2);
        Sentences.says(58, "Throws `IllegalStateException` if there is no snapshot");
        PastryBench fresh = new PastryBench();
        Check.badState(fresh, "a new object", fresh::restoreSnapshot);
        fresh.saveSnapshot();
        Check.accepts("one was saved", fresh::restoreSnapshot);
        Check.load(fresh, "bench");
        Check.accepts("a load with an error", fresh::restoreSnapshot);
        Check.load(fresh, "bench 1 5 0;");
        Check.badState(fresh, "loaded", fresh::restoreSnapshot);
    }
}
