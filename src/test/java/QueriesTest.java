/** Promises 6 to 32: what is asked of the bench, its sheets and their layers. */
public final class QueriesTest {
    public static void main(String[] args) {
        bench();
        warmest();
        finest();
        counts();
        layersOfASheet();
        extremes();
        seams();
        symmetry();
        flagsAndFolds();
        expectedLayers();
        shares();
        noSuchSheet();
        Check.finish("QueriesTest");
    }

    private static void bench() {
        PastryBench bench = Check.benchOf("bench 7 11 13;sheet 1 dough 1;sheet 1 dough 1;sheet 1 dough 1;");
        Check.same("sheetCount", bench.sheetCount(), 3);
        Check.same("roomTemperature", bench.roomTemperature(), 7);
        Check.same("meltingPoint", bench.meltingPoint(), 11);
        Check.same("flour", bench.flour(), 13);
        Check.same("no sheets", Check.benchOf("bench 7 11 13;").sheetCount(), 0);
    }

    private static void warmest() {
        Check.same("warmest of none", Check.benchOf("bench 7 11 13;").warmestSheet(), -1);
        PastryBench bench = Check.benchOf("bench 7 11 13;sheet 0 dough 1;sheet 4 dough 1;sheet 9 dough 1;sheet 9 dough 1;sheet 8 dough 1;");
        Check.same("the smallest of equal ones", bench.warmestSheet(), 2);
        bench.cool(2);
        bench.passHours(1);
        Check.same("the other one", bench.warmestSheet(), 3);
        Check.same("all at 0", Check.benchOf("bench 0 5 0;sheet 0 dough 1;sheet 0 dough 1;").warmestSheet(), 0);
        Check.same("the last one", Check.benchOf("bench 0 5 0;sheet 0 dough 1;sheet 1 dough 1;").warmestSheet(), 1);
    }

    private static void finest() {
        Check.same("finest of none", Check.benchOf("bench 7 11 13;").finestSheet(), -1);
        PastryBench bench = Check.benchOf("bench 7 11 13;sheet 0 dough 90;sheet 4 dough 1 butter 1;sheet 4 butter 5 dough 1;");
        Check.same("the smallest of equal ones", bench.finestSheet(), 1);
        bench.fold(2, 2);
        Check.same("the one with the most layers", bench.finestSheet(), 2);
        Check.same("equal from the start", Check.benchOf("bench 0 5 0;sheet 0 dough 1;sheet 0 dough 9;").finestSheet(), 0);
    }

    private static void counts() {
        PastryBench bench = Check.benchOf("bench 20 10 5;sheet 15 dough 8 butter 3 dough 8 butter 30;sheet 12 dough 4 butter 2;");
        Check.same("no hours", bench.hoursPassed(), 0);
        bench.passHours(2);
        bench.passHours(3);
        Check.same("hours add up", bench.hoursPassed(), 5);
        bench.undo();
        Check.same("hours that were undone", bench.hoursPassed(), 2);
        bench.roll(0, 2);
        Check.same("escaped: 3 of 7 and 7", bench.escapedButter(), 10);
        Check.same("broken: one", bench.brokenLayers(), 1);
        bench.roll(1, 2);
        Check.same("escaped from both", bench.escapedButter(), 12);
        Check.same("broken of both", bench.brokenLayers(), 2);
        bench.undo();
        Check.same("escaped without the undone", bench.escapedButter(), 10);
        Check.same("broken without the undone", bench.brokenLayers(), 1);
        bench.stack(0, 1);
        Check.same("escaped butter is of all sheets", bench.escapedButter(), 10);
        Check.load(bench, "bench 20 10 5;");
        Check.same("counts of a new bench", bench.escapedButter() + bench.brokenLayers() + bench.hoursPassed(), 0);
    }

    private static void layersOfASheet() {
        PastryBench bench = Check.benchOf("bench 20 10 5;sheet 15 dough 8 butter 3 butter 9 dough 400;sheet 3 butter 1;");
        Check.same("layerCount", bench.layerCount(0), 4);
        Check.same("layerCount of the other", bench.layerCount(1), 1);
        Check.same("butterLayerCount", bench.butterLayerCount(0), 2);
        Check.same("layers", Check.layers(bench, 0), "D8 B3 B9 D400");
        Check.same("height", bench.height(0), 420);
        Check.same("butterHeight", bench.butterHeight(0), 12);
        Check.same("butterHeight of butter", bench.butterHeight(1), 1);
        Check.same("butterLayerCount of butter", bench.butterLayerCount(1), 1);
        Check.same("no butter", Check.benchOf("bench 20 10 5;sheet 15 dough 8;").butterHeight(0), 0);
        int[] wrongLayers = {-1, 4, 200, Integer.MAX_VALUE, Integer.MIN_VALUE};
        for (int layer : wrongLayers) {
            Check.noSheet(bench, "isButter(0, " + layer + ")", () -> bench.isButter(0, layer));
            Check.noSheet(bench, "thickness(0, " + layer + ")", () -> bench.thickness(0, layer));
        }
        Check.noSheet(bench, "a layer of the other sheet", () -> bench.thickness(1, 1));
        bench.fold(0, 2);
        bench.undo();
        Check.noSheet(bench, "a layer that was", () -> bench.isButter(0, 4));
        layersThatWere();
    }

    /** What a higher sheet leaves in the rows must not be seen when the sheet is lower again. */
    private static void layersThatWere() {
        PastryBench bench = Check.benchOf("bench 20 10 5;sheet 15 butter 3 dough 8;");
        bench.dust(0);
        bench.fold(0, 4);
        bench.undo();
        Check.same("butterLayerCount", bench.butterLayerCount(0), 1);
        Check.same("butterHeight", bench.butterHeight(0), 3);
        Check.same("height", bench.height(0), 11);
        Check.same("seamCount", bench.seamCount(0), 0);
        Check.same("thinnestLayer", bench.thinnestLayer(0), 0);
        Check.same("thickestLayer", bench.thickestLayer(0), 1);
        PastryBench risky = Check.benchOf("bench 20 10 5;sheet 15 dough 8;");
        risky.addButter(0, 1);
        risky.undo();
        Check.same("butterAtRisk", risky.butterAtRisk(0), 0);
        Check.same("layersAtRisk", risky.layersAtRisk(0, 4), 0);
        Check.same("heightAfterRoll", risky.heightAfterRoll(0, 4), 2);
    }

    private static void extremes() {
        PastryBench bench = Check.benchOf("bench 20 10 5;sheet 15 dough 8 butter 3 dough 9 butter 3 dough 9;sheet 1 dough 5 dough 5;");
        Check.same("thinnest, smallest index", bench.thinnestLayer(0), 1);
        Check.same("thickest, smallest index", bench.thickestLayer(0), 2);
        Check.same("all thin", bench.thinnestLayer(1), 0);
        Check.same("all thick", bench.thickestLayer(1), 0);
        PastryBench rising = Check.benchOf("bench 20 10 5;sheet 15 dough 3 butter 2 dough 1;sheet 15 dough 1 butter 2 dough 3;");
        Check.same("the last is thinnest", rising.thinnestLayer(0), 2);
        Check.same("the last is thickest", rising.thickestLayer(1), 2);
        PastryBench middle = Check.benchOf("bench 20 10 5;sheet 1 dough 3 butter 9 dough 1;sheet 1 dough 3 butter 1 dough 4;");
        Check.same("the second is thickest", middle.thickestLayer(0), 1);
        Check.same("the second is thinnest", middle.thinnestLayer(1), 1);
    }

    private static void seams() {
        PastryBench bench = Check.benchOf("bench 1 9 5;sheet 1 dough 1 dough 2 butter 1 butter 1 butter 1 dough 3;sheet 1 dough 1;sheet 1 dough 1 butter 2 dough 3;");
        Check.same("seams", bench.seamCount(0), 3);
        Check.same("one layer", bench.seamCount(1), 0);
        Check.same("one seam at the bottom", Check.benchOf("bench 1 9 5;sheet 1 dough 1 dough 2 butter 3;").seamCount(0), 1);
        Check.same("one seam at the top", Check.benchOf("bench 1 9 5;sheet 1 dough 1 butter 2 butter 3;").seamCount(0), 1);
        Check.same("changing kinds", bench.seamCount(2), 0);
        bench.dust(2);
        bench.fold(2, 4);
        Check.same("seams of flour", bench.seamCount(2), 3);
    }

    private static void symmetric(String layers, boolean due) {
        Check.same(layers, Check.benchOf("bench 1 9 5;sheet 1 " + layers + ";").isSymmetric(0), due);
    }

    private static void symmetry() {
        symmetric("dough 1", true);
        symmetric("dough 1 dough 1", true);
        symmetric("dough 1 dough 2", false);
        symmetric("dough 1 butter 1", false);
        symmetric("dough 1 butter 2 dough 1", true);
        symmetric("dough 1 butter 2 butter 1", false);
        symmetric("dough 1 butter 2 butter 2 dough 1", true);
        symmetric("dough 1 butter 2 dough 2 dough 1", false);
        symmetric("dough 1 butter 2 butter 3 dough 1", false);
        symmetric("dough 1 butter 2 dough 3 dough 4 dough 3 butter 2 dough 1", true);
        symmetric("dough 1 butter 2 dough 3 dough 4 dough 5 butter 2 dough 1", false);
    }

    private static void flagsAndFolds() {
        PastryBench bench = Check.benchOf("bench 1 9 5;sheet 0 dough 1;sheet 40 dough 1;");
        Check.same("temperature", bench.temperature(0), 0);
        Check.same("temperature of the other", bench.temperature(1), 40);
        Check.same("at first", Check.flags(bench, 0), "");
        bench.dust(0);
        Check.same("dusted", Check.flags(bench, 0) + Check.flags(bench, 1), "dusted ");
        bench.seal(1);
        Check.same("sealed", Check.flags(bench, 0) + Check.flags(bench, 1), "dusted sealed ");
        bench.cool(1);
        Check.same("cooling", Check.flags(bench, 0) + Check.flags(bench, 1), "dusted sealed cooling");
        bench.fold(0, 3);
        bench.fold(0, 2);
        Check.same("foldCount", bench.foldCount(0), 2);
        Check.same("foldCount of the other", bench.foldCount(1), 0);
        bench.cut(0);
        Check.same("foldCount of the cut one", bench.foldCount(2), 2);
        bench.fold(2, 2);
        Check.same("folds of one sheet", bench.foldCount(2) * 10 + bench.foldCount(0), 32);
    }

    private static void expected(PastryBench bench, int sheet, int due) {
        Check.same("expectedLayers", bench.expectedLayers(sheet), due);
        Check.same("layerCount", bench.layerCount(sheet), due);
    }

    private static void expectedLayers() {
        PastryBench bench = Check.benchOf("bench 1 9 9;sheet 0 dough 9 butter 1 dough 9 dough 9;sheet 9 butter 3;sheet 0 dough 2 butter 1;");
        expected(bench, 0, 4);
        bench.fold(0, 3);
        expected(bench, 0, 10);
        bench.dust(0);
        bench.fold(0, 2);
        expected(bench, 0, 20);
        bench.roll(0, 2);
        expected(bench, 0, 20 - 6 - 6);
        bench.fold(1, 4);
        expected(bench, 1, 1);
        bench.addButter(1, 4);
        expected(bench, 1, 1);
        bench.dust(1);
        bench.addButter(1, 4);
        expected(bench, 1, 2);
        bench.addButter(0, 4);
        expected(bench, 0, 9);
        bench.cut(0);
        expected(bench, 3, 9);
        bench.stack(1, 2);
        expected(bench, 1, 4);
        bench.stack(1, 0);
        expected(bench, 0, 13);
        bench.undo();
        expected(bench, 1, 4);
        bench.addButter(1, 4);
        expected(bench, 1, 4);
    }

    private static void shares() {
        PastryBench bench = Check.benchOf("bench 1 9 5;sheet 1 dough 2 butter 1;sheet 1 butter 5;sheet 1 dough 5;sheet 1 dough 3 butter 2 dough 2;");
        Check.same("a third", bench.butterShare(0), 1.0f / 3.0f);
        Check.same("all", bench.butterShare(1), 1.0f);
        Check.same("none", bench.butterShare(2), 0.0f);
        Check.same("two of seven", bench.butterShare(3), 2.0f / 7.0f);
        Check.same("mean of two", bench.meanThickness(0), 1.5);
        Check.same("mean of one", bench.meanThickness(1), 5.0);
        Check.same("mean of three", bench.meanThickness(3), 7.0 / 3.0);
    }

    private static void noSuchSheet() {
        PastryBench bench = new PastryBench();
        Check.noSuchSheets(bench, "layerCount", bench::layerCount);
        Check.noSuchSheets(bench, "butterLayerCount", bench::butterLayerCount);
        Check.noSuchSheets(bench, "isButter", i -> bench.isButter(i, 0));
        Check.noSuchSheets(bench, "thickness", i -> bench.thickness(i, 0));
        Check.noSuchSheets(bench, "height", bench::height);
        Check.noSuchSheets(bench, "butterHeight", bench::butterHeight);
        Check.noSuchSheets(bench, "thinnestLayer", bench::thinnestLayer);
        Check.noSuchSheets(bench, "thickestLayer", bench::thickestLayer);
        Check.noSuchSheets(bench, "seamCount", bench::seamCount);
        Check.noSuchSheets(bench, "isSymmetric", bench::isSymmetric);
        Check.noSuchSheets(bench, "temperature", bench::temperature);
        Check.noSuchSheets(bench, "isDusted", bench::isDusted);
        Check.noSuchSheets(bench, "isSealed", bench::isSealed);
        Check.noSuchSheets(bench, "isCooling", bench::isCooling);
        Check.noSuchSheets(bench, "foldCount", bench::foldCount);
        Check.noSuchSheets(bench, "expectedLayers", bench::expectedLayers);
        Check.noSuchSheets(bench, "butterShare", bench::butterShare);
        Check.noSuchSheets(bench, "meanThickness", bench::meanThickness);
        bench.cut(0);
        bench.undo();
        Check.noSheet(bench, "a sheet that was", () -> bench.layerCount(2));
        PastryBench empty = Check.benchOf("bench 7 11 13;");
        Check.noSuchSheets(empty, "layerCount without sheets", empty::layerCount);
    }
}
