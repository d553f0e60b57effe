/** The edges of what is asked: promises 6 to 32. */
final class QueryEdges {
    private QueryEdges() {
    }

    static void check() {
        theBench();
        hours();
        escapedAndBroken();
        warmestAndFinest();
        counts();
        layers();
        heights();
        extremes();
        seams();
        symmetry();
        temperaturesAndFlags();
        folds();
        expectedLayers();
        shares();
    }

    private static PastryBench oneSheet(String sheet) {
        return Check.benchOf("bench 20 18 50;sheet " + sheet + ";");
    }

    private static void theBench() {
        Sentences.says(6, "Returns the number of sheets.");
        PastryBench bench = Edge.sheets(5);
        Check.same("one more", bench.cut(0) + bench.sheetCount(), 11);
        bench.stack(0, 1);
        Check.same("one less", bench.sheetCount(), 5);
        bench.undo();
        bench.undo();
        Check.same("undone", bench.sheetCount(), 5);
        Sentences.says(6, "Returns 0 to 6.");
        Check.same("none", Edge.sheets(0).sheetCount(), 0);
        Check.same("one", Edge.sheets(1).sheetCount(), 1);
        Check.same("six", Edge.sheets(6).sheetCount(), 6);
        Sentences.says(7, "Returns the room temperature.");
        Check.same("at first", new PastryBench().roomTemperature(), 22);
        Sentences.says(7, "Returns the temperature in degrees.");
        Check.same("least", Check.benchOf("bench 0 35 50;").roomTemperature(), 0);
        Check.same("most", Check.benchOf("bench 40 5 0;").roomTemperature(), 40);
        Sentences.says(8, "Returns the melting point of butter.");
        Check.same("at first", new PastryBench().meltingPoint(), 18);
        Sentences.says(8, "Returns the temperature in degrees.");
        Check.same("least", Check.benchOf("bench 40 5 50;").meltingPoint(), 5);
        Check.same("most", Check.benchOf("bench 0 35 0;").meltingPoint(), 35);
        Sentences.says(9, "Returns the stock of flour.");
        Check.same("at first", new PastryBench().flour(), 5);
        Sentences.says(9, "Returns the number of portions.");
        PastryBench flour = Check.benchOf("bench 0 5 1;sheet 1 dough 1;");
        flour.dust(0);
        Check.same("none", flour.flour(), 0);
        for (int i = 0; i < 19; i++) {
            flour.buyFlour(50);
        }
        flour.buyFlour(49);
        Check.same("most", flour.flour(), 999);
        Check.same("loaded", Check.benchOf("bench 0 5 50;").flour(), 50);
    }

    private static void hours() {
        Sentences.says(10, "Returns the number of hours that have passed.");
        PastryBench bench = new PastryBench();
        Check.same("none", bench.hoursPassed(), 0);
        bench.passHours(1);
        bench.passHours(24);
        Check.same("the sum", bench.hoursPassed(), 25);
        bench.undo();
        Check.same("undone", bench.hoursPassed(), 1);
        Check.same("most", Edge.after(9999).hoursPassed(), 9999);
        Sentences.says(10, "Returns the number of hours since the bench was loaded.");
        Check.load(bench, "bench 1 5 0");
        Check.same("a failed load", bench.hoursPassed(), 1);
        Check.load(bench, "bench 1 5 0;");
        Check.same("loaded", bench.hoursPassed(), 0);
        Check.badState(bench, "nothing to undo", bench::undo);
    }

    private static void escapedAndBroken() {
        Sentences.says(11, "Returns the butter that has escaped.");
        Check.same("none", new PastryBench().escapedButter(), 0);
        Sentences.says(12, "Returns the number of broken butter layers.");
        Check.same("none", new PastryBench().brokenLayers(), 0);
        Sentences.says(11, "Returns the number of tenths of a millimeter that have escaped from all sheets since the bench was loaded; "
                + "changes that were undone do not count.");
        escapedAndBrokenOfAll();
        Sentences.says(12, "Returns the number of butter layers that have disappeared by rolling since the bench was loaded; "
                + "changes that were undone do not count.");
        escapedAndBrokenOfAll();
        PastryBench joined = Check.benchOf("bench 20 18 5;sheet 1 butter 9 butter 1 butter 9;");
        joined.roll(0, 2);
        Check.same("joining is no breaking", joined.brokenLayers(), 1);
        joined.fold(0, 2);
        Check.same("folding breaks none", joined.brokenLayers(), 1);
    }

    private static void counted(PastryBench bench, int escaped, int broken) {
        Check.same("escaped", bench.escapedButter(), escaped);
        Check.same("broken", bench.brokenLayers(), broken);
    }

    private static void escapedAndBrokenOfAll() {
        PastryBench bench = Check.benchOf("bench 20 18 5;sheet 20 dough 8 butter 3 dough 8 butter 30;sheet 19 dough 4 butter 2;");
        bench.roll(0, 2);
        counted(bench, 4, 1);
        bench.roll(1, 2);
        counted(bench, 5, 2);
        bench.undo();
        counted(bench, 4, 1);
        Check.script(bench, "roll 1 2;roll 0 2;");
        counted(bench, 4 + 1 + 4, 2);
        bench.undo();
        counted(bench, 4, 1);
        bench.stack(1, 0);
        counted(bench, 4, 1);
        Check.load(bench, "bench 1 5");
        counted(bench, 4, 1);
        bench.undo();
        bench.undo();
        counted(bench, 0, 0);
        bench.roll(0, 2);
        Check.load(bench, "bench 1 5 0;");
        counted(bench, 0, 0);
    }

    private static int warmest(String temperatures) {
        return Check.benchOf("bench 20 18 5;" + temperatures.replaceAll("([0-9]+) ?", "sheet $1 dough 1;")).warmestSheet();
    }

    private static int finest(String counts) {
        StringBuilder text = new StringBuilder("bench 20 18 5;");
        for (String count : counts.split(" ")) {
            text.append("sheet 1").append(" dough 1".repeat(Integer.parseInt(count))).append(";");
        }
        return Check.benchOf(text.toString()).finestSheet();
    }

    private static void warmestAndFinest() {
        Sentences.says(13, "Finds the warmest sheet.");
        Check.same("at first", new PastryBench().warmestSheet(), 1);
        Sentences.says(13, "Returns the index of the sheet with the highest temperature; the smallest index if several are equal; "
                + "-1 without sheets.");
        Check.same("without sheets", Edge.sheets(0).warmestSheet(), -1);
        Check.same("one at 0", warmest("0"), 0);
        Check.same("all equal", warmest("0 0 0 0 0 0"), 0);
        Check.same("the first", warmest("9 8 8 8 8 8"), 0);
        Check.same("the last", warmest("0 1 2 3 4 5"), 5);
        Check.same("several", warmest("1 39 40 40 0 40"), 2);
        Check.same("the last two", warmest("1 2 3 3 9 9"), 4);
        PastryBench cut = Edge.sheets(2);
        cut.cut(1);
        Check.same("the copy is as warm", cut.warmestSheet(), 1);
        cut.stack(2, 1);
        Check.same("the one left", cut.warmestSheet(), 1);
        Sentences.says(14, "Finds the sheet with the most layers.");
        Check.same("at first", new PastryBench().finestSheet(), 1);
        Sentences.says(14, "Returns the index of the sheet; the smallest index if several are equal; -1 without sheets.");
        Check.same("without sheets", Edge.sheets(0).finestSheet(), -1);
        Check.same("one", finest("1"), 0);
        Check.same("all equal", finest("1 1 1 1 1 1"), 0);
        Check.same("the first", finest("9 8 8 8"), 0);
        Check.same("the last", finest("1 2 3 4 5"), 4);
        Check.same("several", finest("1 6 7 7 2 7"), 2);
        Check.same("not the highest", Check.benchOf("bench 1 5 0;sheet 1 dough 400;sheet 1 dough 1 dough 1;").finestSheet(), 1);
    }

    private static void counts() {
        Sentences.says(15, "Returns the number of layers of a sheet.");
        Check.same("three", new PastryBench().layerCount(0), 3);
        Sentences.says(15, "Returns 1 to 200.");
        Check.same("1", oneSheet("1 dough 1").layerCount(0), 1);
        Check.same("200", Edge.onFlour(200).layerCount(0), 200);
        Edge.sheetIndex(15, (bench, sheet) -> Check.same("layers", bench.layerCount(sheet), 3));
        Sentences.says(16, "Returns the number of butter layers of a sheet.");
        Check.same("two", new PastryBench().butterLayerCount(1), 2);
        Sentences.says(16, "Returns the number of butter layers.");
        Check.same("none", oneSheet("1 dough 1").butterLayerCount(0), 0);
        Check.same("all", oneSheet("1 butter 1 butter 2").butterLayerCount(0), 2);
        Check.same("at the top", oneSheet("1 dough 1 butter 2").butterLayerCount(0), 1);
        Check.same("at the bottom", oneSheet("1 butter 1 dough 2").butterLayerCount(0), 1);
        Check.same("all of 200", Edge.onFlour(200).butterLayerCount(0), 200);
        Edge.sheetIndex(16, (bench, sheet) -> Check.same("butter", bench.butterLayerCount(sheet), 1));
    }

    private static final String NO_LAYER = "Throws `IndexOutOfBoundsException` if there is no such sheet or no such layer";

    private static void layers() {
        Sentences.says(17, "Tells whether a layer is butter.");
        PastryBench bench = oneSheet("1 dough 5 butter 6 dough 7");
        Sentences.says(17, "Returns true for butter, false for dough.");
        Check.same("kinds", bench.isButter(0, 0) + " " + bench.isButter(0, 1) + " " + bench.isButter(0, 2), "false true false");
        Sentences.says(18, "Returns the thickness of a layer.");
        Check.same("all", bench.thickness(0, 0) * 100 + bench.thickness(0, 1) * 10 + bench.thickness(0, 2), 567);
        Sentences.says(18, "Returns the thickness in tenths of a millimeter.");
        Check.same("least", oneSheet("1 dough 1").thickness(0, 0), 1);
        Check.same("most loaded", oneSheet("1 dough 400").thickness(0, 0), 400);
        Sentences.says(17, NO_LAYER);
        noSuchLayer("isButter", PastryBench::isButter);
        Sentences.says(18, NO_LAYER);
        noSuchLayer("thickness", PastryBench::thickness);
    }

    private interface LayerCall {
        Object of(PastryBench bench, int sheet, int layer);
    }

    private static void noSuchLayer(String name, LayerCall call) {
        for (int count = 0; count <= 6; count++) {
            PastryBench bench = Edge.sheets(count);
            int[] sheets = {-1, count, 6, Integer.MIN_VALUE, Integer.MAX_VALUE};
            for (int sheet : sheets) {
                Check.noSheet(bench, name + " of sheet " + sheet, () -> call.of(bench, sheet, 0));
                Check.noSheet(bench, name + " of sheet and layer " + sheet, () -> call.of(bench, sheet, sheet));
            }
        }
        PastryBench bench = oneSheet("1 dough 5 butter 6;sheet 1 dough 1");
        int[] layers = {-1, 2, 3, 200, Integer.MIN_VALUE, Integer.MAX_VALUE};
        for (int layer : layers) {
            Check.noSheet(bench, name + " of layer " + layer, () -> call.of(bench, 0, layer));
        }
        Check.noSheet(bench, name + " of the other sheet's layer", () -> call.of(bench, 1, 1));
        Check.accepts("the first and the last layer", () -> {
            call.of(bench, 0, 0);
            call.of(bench, 0, 1);
        });
        bench.fold(0, 4);
        Check.accepts("the last after folding", () -> call.of(bench, 0, 4));
        bench.undo();
        Check.noSheet(bench, name + " of a layer that was", () -> call.of(bench, 0, 2));
        PastryBench full = Edge.onFlour(200);
        Check.accepts("the last of 200", () -> call.of(full, 0, 199));
        Check.noSheet(full, name + " behind 200", () -> call.of(full, 0, 200));
    }

    private static void heights() {
        Sentences.says(19, "Returns the height of a sheet.");
        Check.same("at first", new PastryBench().height(0), 160);
        Sentences.says(19, "Returns the sum of the thicknesses of its layers.");
        Check.same("least", oneSheet("1 butter 1").height(0), 1);
        Check.same("most", Edge.highest().height(0), 4000);
        Check.same("first and last", oneSheet("1 dough 1 butter 20 dough 300").height(0), 321);
        Edge.sheetIndex(19, (bench, sheet) -> Check.same("height", bench.height(sheet), 24));
        Sentences.says(20, "Returns the butter of a sheet.");
        Check.same("at first", new PastryBench().butterHeight(1), 12);
        Sentences.says(20, "Returns the sum of the thicknesses of its butter layers.");
        Check.same("none", oneSheet("1 dough 1").butterHeight(0), 0);
        Check.same("all", oneSheet("1 butter 1 butter 20").butterHeight(0), 21);
        Check.same("first and last", oneSheet("1 butter 1 dough 20 butter 300").butterHeight(0), 301);
        Edge.sheetIndex(20, (bench, sheet) -> Check.same("butter", bench.butterHeight(sheet), 8));
    }

    private static void extremes() {
        Sentences.says(21, "Finds the thinnest layer of a sheet.");
        Check.same("at first", new PastryBench().thinnestLayer(1), 3);
        Sentences.says(21, "Returns the index of the layer; the smallest index if several are equally thin.");
        Check.same("one layer", oneSheet("1 dough 9").thinnestLayer(0), 0);
        Check.same("all equal", oneSheet("1 dough 9 butter 9 dough 9").thinnestLayer(0), 0);
        Check.same("the last", oneSheet("1 dough 3 butter 2 dough 1").thinnestLayer(0), 2);
        Check.same("the first", oneSheet("1 dough 1 butter 2 dough 3").thinnestLayer(0), 0);
        Check.same("several", oneSheet("1 dough 3 butter 2 dough 9 butter 2").thinnestLayer(0), 1);
        Edge.sheetIndex(21, (bench, sheet) -> Check.same("thinnest", bench.thinnestLayer(sheet), 0));
        Sentences.says(22, "Finds the thickest layer of a sheet.");
        Check.same("at first", new PastryBench().thickestLayer(1), 0);
        Sentences.says(22, "Returns the index of the layer; the smallest index if several are equally thick.");
        Check.same("one layer", oneSheet("1 dough 9").thickestLayer(0), 0);
        Check.same("all equal", oneSheet("1 dough 9 butter 9 dough 9").thickestLayer(0), 0);
        Check.same("the last", oneSheet("1 dough 1 butter 2 dough 3").thickestLayer(0), 2);
        Check.same("the first", oneSheet("1 dough 3 butter 2 dough 1").thickestLayer(0), 0);
        Check.same("several", oneSheet("1 dough 3 butter 9 dough 8 butter 9").thickestLayer(0), 1);
        Edge.sheetIndex(22, (bench, sheet) -> Check.same("thickest", bench.thickestLayer(sheet), 0));
    }

    private static void seams() {
        Sentences.says(23, "Counts the places where two layers of the same kind lie on each other.");
        Check.same("none", new PastryBench().seamCount(1), 0);
        Sentences.says(23, "Returns the number of layers that have the same kind as the layer above them.");
        Check.same("one layer", oneSheet("1 dough 9").seamCount(0), 0);
        Check.same("at the bottom", oneSheet("1 dough 9 dough 8 butter 1").seamCount(0), 1);
        Check.same("at the top", oneSheet("1 dough 9 butter 8 butter 1").seamCount(0), 1);
        Check.same("all", oneSheet("1 butter 9 butter 8 butter 1").seamCount(0), 2);
        Check.same("all of 200", Edge.onFlour(200).seamCount(0), 199);
        Edge.sheetIndex(23, (bench, sheet) -> Check.same("seams", bench.seamCount(sheet), 0));
    }

    private static void symmetric(String layers, boolean due) {
        Check.same(layers, oneSheet("1 " + layers).isSymmetric(0), due);
    }

    private static void symmetry() {
        Sentences.says(24, "Tells whether a sheet is the same from both sides.");
        PastryBench first = new PastryBench();
        Check.same("at first", first.isSymmetric(0) + " " + first.isSymmetric(1), "true false");
        Sentences.says(24, "Returns whether the kinds and thicknesses of its layers are the same from the bottom and from the top.");
        symmetric("dough 1", true);
        symmetric("butter 1 butter 1", true);
        symmetric("butter 1 butter 2", false);
        symmetric("butter 1 dough 1", false);
        symmetric("dough 1 butter 9 dough 1", true);
        symmetric("dough 1 butter 9 dough 2", false);
        symmetric("dough 1 butter 9 butter 1", false);
        symmetric("dough 1 dough 2 butter 2 dough 1", false);
        symmetric("dough 1 dough 2 dough 3 dough 1", false);
        symmetric("dough 1 dough 2 butter 9 dough 2 dough 1", true);
        symmetric("dough 1 dough 2 butter 9 dough 3 dough 1", false);
        symmetric("dough 1 dough 2 butter 9 butter 2 dough 1", false);
        Check.same("200 layers", Edge.onFlour(200).isSymmetric(0), true);
        Check.same("but for the top one", Edge.withTop(200, "dough").isSymmetric(0), false);
        Edge.sheetIndex(24, (bench, sheet) -> Check.same("symmetric", bench.isSymmetric(sheet), true));
    }

    private static void temperaturesAndFlags() {
        Sentences.says(25, "Returns the temperature of a sheet.");
        Check.same("at first", new PastryBench().temperature(1), 20);
        Sentences.says(25, "Returns 0 to 40.");
        Check.same("least", oneSheet("0 dough 1").temperature(0), 0);
        Check.same("most", oneSheet("40 dough 1").temperature(0), 40);
        Edge.sheetIndex(25, (bench, sheet) -> Check.same("temperature", bench.temperature(sheet), 10 + sheet));
        PastryBench bench = Edge.sheets(6);
        bench.dust(0);
        bench.seal(1);
        bench.cool(5);
        Sentences.says(26, "Tells whether a sheet is dusted.");
        Check.same("only the first", bench.isDusted(0) + " " + bench.isDusted(1) + " " + bench.isDusted(5), "true false false");
        Sentences.says(26, "Returns whether it is dusted with flour.");
        bench.undo();
        bench.undo();
        bench.undo();
        Check.same("undone", bench.isDusted(0), false);
        Edge.sheetIndex(26, (any, sheet) -> Check.same("dusted", any.isDusted(sheet), false));
        Sentences.says(27, "Tells whether the edges of a sheet are sealed.");
        bench.seal(1);
        Check.same("only the second", bench.isSealed(0) + " " + bench.isSealed(1) + " " + bench.isSealed(5), "false true false");
        Sentences.says(27, "Returns whether they are sealed.");
        bench.undo();
        Check.same("undone", bench.isSealed(1), false);
        Edge.sheetIndex(27, (any, sheet) -> Check.same("sealed", any.isSealed(sheet), false));
        Sentences.says(28, "Tells whether a sheet is in the refrigerator.");
        bench.cool(5);
        Check.same("only the last", bench.isCooling(0) + " " + bench.isCooling(1) + " " + bench.isCooling(5), "false false true");
        Sentences.says(28, "Returns whether it is in the refrigerator.");
        bench.takeOut(5);
        Check.same("taken out", bench.isCooling(5), false);
        Edge.sheetIndex(28, (any, sheet) -> Check.same("cooling", any.isCooling(sheet), false));
    }

    private static void folds() {
        Sentences.says(29, "Returns the number of times that a sheet has been folded.");
        PastryBench bench = Check.benchOf("bench 20 18 5;sheet 1 dough 1;sheet 1 dough 1;");
        Check.same("never", bench.foldCount(0), 0);
        for (int i = 1; i <= 5; i++) {
            bench.fold(0, 4);
            Check.same("times", bench.foldCount(0) * 10 + bench.foldCount(1), 10 * i);
        }
        Check.badState(bench, "not a sixth time", () -> bench.fold(0, 4));
        bench.roll(0, 2);
        Check.same("rolling is no folding", bench.foldCount(0), 5);
        Sentences.says(29, "Returns the number of folds; a sheet that was cut off has the number of the sheet from which it was cut.");
        bench.cut(0);
        bench.cut(1);
        Check.same("cut off", bench.foldCount(2) * 10 + bench.foldCount(3), 50);
        Edge.sheetIndex(29, (any, sheet) -> Check.same("folds", any.foldCount(sheet), 0));
    }

    private static void expected(PastryBench bench, int due) {
        Check.same("expected", bench.expectedLayers(0), due);
        Check.same("layers", bench.layerCount(0), due);
    }

    private static void expectedLayers() {
        Sentences.says(30, "Returns the number of layers that a sheet should have according to its folds.");
        expected(new PastryBench(), 3);
        Sentences.says(30, "Returns the number of layers, computed without looking at the stack: starting with the layers that were loaded, "
                + "each fold multiplies the number by the parts and subtracts the number of places where layers were joined, each butter layer "
                + "that breaks subtracts 1, each two layers that are joined subtract 1, and stacking and adding butter add the layers that "
                + "come; always equal to layerCount(sheet).");
        PastryBench bench = oneSheet("1 dough 9 butter 1 dough 9;sheet 1 butter 4 dough 4");
        expected(bench, 3);
        bench.fold(0, 4);
        expected(bench, 9);
        bench.dust(0);
        bench.fold(0, 2);
        expected(bench, 18);
        bench.roll(0, 2);
        expected(bench, 2);
        bench.addButter(0, 2);
        expected(bench, 3);
        bench.addButter(0, 2);
        expected(bench, 3);
        bench.stack(0, 1);
        expected(bench, 4);
        bench.undo();
        bench.dust(0);
        bench.stack(0, 1);
        expected(bench, 5);
        expected(oneSheet("1 butter 1"), 1);
        expected(Edge.onFlour(200), 200);
        expected(Edge.withTop(200, "butter"), 200);
        PastryBench one = oneSheet("1 butter 9 butter 1 butter 9");
        one.roll(0, 2);
        expected(one, 1);
        PastryBench ends = oneSheet("1 butter 1 dough 9 butter 1");
        ends.roll(0, 2);
        expected(ends, 1);
        Edge.sheetIndex(30, (any, sheet) -> Check.same("expected", any.expectedLayers(sheet), 3));
    }

    private static void shares() {
        Sentences.says(31, "Returns the fraction of butter of a sheet.");
        Check.same("a quarter", new PastryBench().butterShare(0), 0.25f);
        Sentences.says(31, "Returns butterHeight(sheet) divided by height(sheet), both converted to float.");
        Check.same("none", oneSheet("1 dough 7").butterShare(0), 0f);
        Check.same("all", oneSheet("1 butter 7").butterShare(0), 1f);
        Check.same("1 of 3", oneSheet("1 dough 2 butter 1").butterShare(0), 1f / 3f);
        Check.same("50 of 4000", Edge.highest().butterShare(0), 100f / 4000f);
        Edge.sheetIndex(31, (any, sheet) -> Check.same("share", any.butterShare(sheet), 8f / 24f));
        Sentences.says(32, "Returns the mean thickness of the layers of a sheet.");
        Check.same("at first", new PastryBench().meanThickness(1), 19.4);
        Sentences.says(32, "Returns height(sheet) divided by layerCount(sheet), both converted to double.");
        Check.same("least", oneSheet("1 dough 1").meanThickness(0), 1.0);
        Check.same("one layer", oneSheet("1 dough 400").meanThickness(0), 400.0);
        Check.same("8 by 3", oneSheet("1 dough 2 butter 3 dough 3").meanThickness(0), 8.0 / 3.0);
        Check.same("200 layers", Edge.onFlour(200).meanThickness(0), 1.0);
        Edge.sheetIndex(32, (any, sheet) -> Check.same("mean", any.meanThickness(sheet), 8.0));
    }
}
