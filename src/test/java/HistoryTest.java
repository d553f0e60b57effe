/** Promises 53 to 58: the output, undoing, and the snapshot. */
public final class HistoryTest {
    public static void main(String[] args) {
        writing();
        outputBytes();
        undoing();
        everyChangeCounts();
        onlyEight();
        undoLeaves();
        snapshots();
        snapshotAndHistory();
        Check.finish("HistoryTest");
    }

    private static void written(PastryBench bench, int sheet, String due) {
        Check.same(due, bench.writeSheet(sheet), due.length());
        Check.same("the output", Check.output(bench), due);
    }

    private static void writing() {
        PastryBench bench = Check.benchOf(
                "bench 1 9 9;sheet 1 dough 400 butter 9 dough 10 butter 100;sheet 1 dough 250;sheet 1 butter 335;");
        written(bench, 0, "B100 D10 B9 D400");
        written(bench, 1, "D250");
        bench.fold(1, 4);
        written(bench, 1, "D1000");
        bench.fold(1, 4);
        written(bench, 1, "D4000");
        bench.fold(2, 3);
        written(bench, 2, "B1005");
        bench.dust(2);
        bench.fold(2, 3);
        written(bench, 2, "B1005 B1005 B1005");
        bench.fold(0, 2);
        written(bench, 0, "D400 B9 D10 B200 D10 B9 D400");
        Check.noSuchSheets(bench, "writeSheet", bench::writeSheet);
        PastryBench full = Check.benchOf("bench 1 9 9;sheet 1 dough 20;");
        full.dust(0);
        full.fold(0, 2);
        full.dust(0);
        for (int i = 0; i < 98; i++) {
            full.addButter(0, 20);
        }
        full.fold(0, 2);
        StringBuilder due = new StringBuilder("D20 D20 ");
        for (int i = 0; i < 196; i++) {
            due.append("B20 ");
        }
        written(full, 0, due + "D20 D20");
        Check.same("layers written", full.layerCount(0), 200);
    }

    private static void outputBytes() {
        PastryBench bench = new PastryBench();
        int[] wrong = {0, -1, 1, Integer.MIN_VALUE, Integer.MAX_VALUE};
        for (int index : wrong) {
            Check.noSheet(bench, "no output, byte " + index, () -> bench.outputByte(index));
        }
        Check.same("length", bench.writeSheet(0), 11);
        Check.same("D", bench.outputByte(0), 68);
        Check.same("6", bench.outputByte(1), 54);
        Check.same("space", bench.outputByte(3), 32);
        Check.same("B", bench.outputByte(4), 66);
        Check.same("the last byte", bench.outputByte(10), 48);
        int[] outside = {-1, 11, 1200, Integer.MIN_VALUE, Integer.MAX_VALUE};
        for (int index : outside) {
            Check.noSheet(bench, "byte " + index, () -> bench.outputByte(index));
        }
        bench.roll(0, 4);
        bench.undo();
        bench.saveSnapshot();
        bench.restoreSnapshot();
        Check.load(bench, "bench 1 9 9;sheet 1 butter 7;");
        Check.noSheet(bench, "a refused writeSheet", () -> bench.writeSheet(1));
        Check.same("writeSheet alone changes the output", Check.output(bench), "D60 B40 D60");
        bench.writeSheet(0);
        Check.same("a shorter output", Check.output(bench), "B7");
        Check.noSheet(bench, "a byte that was", () -> bench.outputByte(2));
    }

    private static void undoing() {
        PastryBench bench = new PastryBench();
        Check.badState(bench, "nothing to undo", bench::undo);
        String[] before = new String[8];
        Runnable[] changes = {() -> bench.dust(0), () -> bench.fold(0, 3), () -> bench.seal(1), () -> bench.cool(1),
            () -> bench.passHours(2), () -> bench.cut(0), () -> bench.stack(2, 0), () -> bench.roll(1, 3)};
        for (int i = 0; i < 8; i++) {
            before[i] = Check.toldBench(bench);
            Check.same("undoable", bench.undoableCount(), i);
            changes[i].run();
        }
        Check.same("eight can be undone", bench.undoableCount(), 8);
        for (int i = 7; i >= 0; i--) {
            Check.same("left to undo", bench.undo(), i);
            Check.same("undoableCount", bench.undoableCount(), i);
            Check.same("the bench before change " + i, Check.toldBench(bench), before[i]);
        }
        Check.badState(bench, "all undone", bench::undo);
    }

    private static void counts(PastryBench bench, int due, Runnable change) {
        String before = Check.toldBench(bench);
        change.run();
        Check.same("undoable after change " + due, bench.undoableCount(), due);
        String after = Check.toldBench(bench);
        bench.undo();
        Check.same("undone change " + due, Check.toldBench(bench), before);
        change.run();
        Check.same("made again " + due, Check.toldBench(bench), after);
    }

    private static void everyChangeCounts() {
        PastryBench bench = new PastryBench();
        counts(bench, 1, () -> bench.addButter(0, 7));
        counts(bench, 2, () -> bench.buyFlour(7));
        counts(bench, 3, () -> bench.roll(1, 4));
        counts(bench, 4, () -> bench.seal(1));
        counts(bench, 5, () -> bench.cool(1));
        counts(bench, 6, () -> bench.passHours(1));
        counts(bench, 7, () -> bench.takeOut(1));
        counts(bench, 8, () -> bench.cut(0));
        PastryBench other = new PastryBench();
        counts(other, 1, () -> other.dust(0));
        counts(other, 2, () -> other.fold(0, 2));
        counts(other, 3, () -> other.stack(1, 0));
        counts(other, 4, () -> Check.script(other, "dust 0;"));
        counts(other, 5, () -> Check.script(other, "dust 3;"));
        Check.script(other, "dust");
        Check.same("a script with a parse error is no change", other.undoableCount(), 5);
        Check.load(other, "bench");
        other.writeSheet(0);
        other.saveSnapshot();
        other.appendText(0, 0, 0, 0, 0);
        Check.same("nothing else is a change", other.undoableCount(), 5);
        PastryBench still = Check.benchOf("bench 1 9 9;sheet 1 butter 7;");
        still.passHours(1);
        Check.same("a change that moves hours alone", still.undoableCount(), 1);
    }

    private static void onlyEight() {
        PastryBench bench = new PastryBench();
        for (int i = 1; i <= 20; i++) {
            bench.passHours(i);
            Check.same("after " + i, bench.undoableCount(), Math.min(8, i));
        }
        for (int i = 20; i > 12; i--) {
            Check.same("left", bench.undo(), i - 13);
            Check.same("hours", bench.hoursPassed(), i * (i - 1) / 2);
        }
        Check.badState(bench, "an older change", bench::undo);
        bench.passHours(1);
        Check.same("from anew", bench.undo(), 0);
        Check.same("hours of the oldest", bench.hoursPassed(), 78);
    }

    private static void undoLeaves() {
        PastryBench bench = new PastryBench();
        bench.saveSnapshot();
        bench.dust(0);
        Check.load(bench, "bench 99");
        bench.writeSheet(1);
        Check.type(bench, "dust 0;");
        bench.undo();
        Check.error("undo leaves the parse error", bench, 2, 6);
        Check.same("undo leaves the output", Check.output(bench), "D30 B3 D25 B9 D30");
        Check.same("undo leaves the buffer", bench.runScript(20), 1);
        bench.passHours(3);
        bench.undo();
        bench.undo();
        bench.seal(0);
        Check.same("undo leaves the snapshot", bench.restoreSnapshot(), 2);
        Check.same("as it was saved", Check.flags(bench, 0), "");
    }

    private static void snapshots() {
        PastryBench bench = new PastryBench();
        Check.badState(bench, "no snapshot", bench::restoreSnapshot);
        bench.roll(1, 2);
        bench.passHours(3);
        bench.cool(1);
        bench.cut(0);
        String saved = Check.toldBench(bench);
        bench.saveSnapshot();
        Check.same("saving changes nothing", Check.toldBench(bench), saved);
        Check.same("saving keeps the history", bench.undoableCount(), 4);
        bench.stack(0, 2);
        bench.roll(0, 4);
        bench.dust(0);
        Check.same("restore", bench.restoreSnapshot(), 3);
        Check.same("with its counts", Check.toldBench(bench), saved);
        Check.same("nothing to undo", bench.undoableCount(), 0);
        Check.badState(bench, "the history is cleared", bench::undo);
        bench.takeOut(1);
        bench.stack(1, 0);
        Check.same("the snapshot is kept", bench.restoreSnapshot(), 3);
        Check.same("once more", Check.toldBench(bench), saved);
        bench.seal(2);
        bench.saveSnapshot();
        bench.undo();
        bench.restoreSnapshot();
        Check.same("an earlier snapshot is replaced", Check.flags(bench, 2), "sealed ");
        Check.load(bench, "bench 1");
        Check.same("a failed load keeps it", bench.restoreSnapshot(), 3);
        Check.load(bench, "bench 1 5 0;");
        Check.badState(bench, "a load discards it", bench::restoreSnapshot);
        bench.saveSnapshot();
        Check.same("without sheets", bench.restoreSnapshot(), 0);
    }

    private static void snapshotAndHistory() {
        PastryBench bench = new PastryBench();
        bench.fold(0, 2);
        bench.saveSnapshot();
        bench.undo();
        Check.same("undo goes behind the snapshot", bench.layerCount(0), 3);
        bench.restoreSnapshot();
        Check.same("and the snapshot ahead again", bench.layerCount(0), 5);
        Check.type(bench, "dust 1");
        bench.writeSheet(0);
        Check.load(bench, "bench 1 99");
        Check.type(bench, "dust 1;");
        bench.restoreSnapshot();
        Check.same("restoring leaves the output", Check.output(bench), "D60 B40 D120 B40 D60");
        Check.same("restoring leaves the buffer", bench.runScript(20), 1);
    }
}
