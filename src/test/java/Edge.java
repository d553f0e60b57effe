/** What the tests of the document's edges share: benches at its limits, and arguments at the ends of their ranges. */
final class Edge {
    static final String NO_SHEET = "Throws `IndexOutOfBoundsException` if there is no such sheet";

    interface SheetCall {
        void on(PastryBench bench, int sheet);
    }

    private Edge() {
    }

    /** As many sheets, alike but for their temperatures of 10 degrees and up. */
    static PastryBench sheets(int count) {
        StringBuilder text = new StringBuilder("bench 20 18 9;");
        for (int i = 0; i < count; i++) {
            text.append("sheet ").append(10 + i).append(" dough 8 butter 8 dough 8;");
        }
        return Check.benchOf(text.toString());
    }

    /** One dusted sheet of as many layers of butter, each a tenth of a millimeter. */
    static PastryBench onFlour(int layers) {
        return onFlour(layers, "");
    }

    /** The same with other sheets behind it. */
    static PastryBench onFlour(int layers, String others) {
        PastryBench bench = Check.benchOf("bench 1 9 50;sheet 1 butter 1;" + others);
        bench.dust(0);
        addOnes(bench, layers - 1);
        Check.same("layers", bench.layerCount(0), layers);
        return bench;
    }

    /** One sheet without flour of as many layers, each a tenth of a millimeter; the top one is as told. */
    static PastryBench withTop(int layers, String kind) {
        return withTop(layers, kind, "");
    }

    static PastryBench withTop(int layers, String kind, String others) {
        PastryBench bench = onFlour(layers - 1, "sheet 1 " + kind + " 1;" + others);
        Check.same("layers", bench.stack(0, 1), layers);
        return bench;
    }

    static void addOnes(PastryBench bench, int count) {
        for (int i = 0; i < count; i++) {
            bench.addButter(0, 1);
        }
    }

    /** One sheet of dough that is as high, at most 3600. */
    static PastryBench high(int height) {
        StringBuilder text = new StringBuilder("bench 1 9 50;sheet 1");
        for (int left = height; left > 0; left -= 400) {
            text.append(" dough ").append(Math.min(400, left));
        }
        PastryBench bench = Check.benchOf(text.append(";").toString());
        Check.same("height", bench.height(0), height);
        return bench;
    }

    /** A sheet as high as can be, 4000 in 15 layers, with butter on top. */
    static PastryBench highest() {
        PastryBench bench = Check.benchOf("bench 1 9 50;sheet 1 dough 200 dough 300 dough 400 dough 300 dough 400 dough 200 dough 150 butter 50;");
        bench.fold(0, 2);
        Check.same("height", bench.height(0), 4000);
        return bench;
    }

    /** A bench on which as many hours have passed, by scripts of 24 hours a command. */
    static PastryBench after(int hours) {
        PastryBench bench = new PastryBench();
        for (int left = hours; left > 0; left -= 480) {
            StringBuilder script = new StringBuilder();
            for (int i = 0; i < 20 && left - 24 * i > 0; i++) {
                script.append("wait ").append(Math.min(24, left - 24 * i)).append(";");
            }
            Check.script(bench, script.toString());
        }
        Check.same("hours", bench.hoursPassed(), hours);
        return bench;
    }

    static void sheetIndex(int promise, SheetCall call) {
        sheetIndex(promise, 6, (bench, sheet) -> { }, call);
    }

    /** With 0 sheets and up: the first and the last one are there, the first that is not is refused. */
    static void sheetIndex(int promise, int mostSheets, SheetCall prepare, SheetCall call) {
        Sentences.says(promise, NO_SHEET);
        int[] counts = {0, 1, 2, mostSheets};
        for (int count : counts) {
            int[] wrong = {-1, count, 6, Integer.MIN_VALUE, Integer.MAX_VALUE};
            for (int index : wrong) {
                PastryBench bench = sheets(count);
                Check.noSheet(bench, "sheet " + index + " of " + count, () -> call.on(bench, index));
            }
            for (int index = 0; index < count; index++) {
                PastryBench bench = sheets(count);
                int sheet = index;
                prepare.on(bench, sheet);
                Check.accepts("sheet " + sheet + " of " + count, () -> call.on(bench, sheet));
            }
        }
    }

    /** The ends of the range are allowed, what is beyond them is refused. */
    static void range(int promise, String bullet, String refusal, int low, int high, SheetCall call) {
        Sentences.says(promise, bullet);
        for (int number = low; number <= high; number++) {
            PastryBench bench = sheets(2);
            int allowed = number;
            Check.accepts("number " + allowed, () -> call.on(bench, allowed));
        }
        Sentences.says(promise, refusal);
        int[] wrong = {low - 1, high + 1, -high, -1, Integer.MIN_VALUE, Integer.MAX_VALUE};
        for (int number : wrong) {
            PastryBench bench = sheets(2);
            Check.badArgument(bench, "number " + number, () -> call.on(bench, number));
        }
    }

    static void told(PastryBench bench, int sheet, String due) {
        Check.same("sheet " + sheet, Check.toldSheet(bench, sheet), due);
    }

    static String rows(PastryBench bench) {
        StringBuilder rows = new StringBuilder();
        for (int i = 0; i < bench.sheetCount(); i++) {
            rows.append(i == 0 ? "" : " | ").append(Check.layers(bench, i));
        }
        return rows.toString();
    }
}
