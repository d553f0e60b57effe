/** Promises 33 to 40: reasons and forecasts. */
public final class ForecastTest {
    public static void main(String[] args) {
        foldObstacles();
        possibleFolds();
        butterAtRisk();
        layersAtRisk();
        heightAfterRoll();
        temperatureAfter();
        hoursToSafety();
        wrongArguments();
        nothingChanges();
        Check.finish("ForecastTest");
    }

    private static void folding(PastryBench bench, int sheet, int parts, int obstacle, int layers) {
        String what = "sheet " + sheet + " in " + parts;
        Check.same("foldObstacle of " + what, bench.foldObstacle(sheet, parts), obstacle);
        Check.same("layersAfterFold of " + what, bench.layersAfterFold(sheet, parts), layers);
    }

    /** A sheet of as many layers of butter on flour, a tenth of a millimeter each. */
    private static PastryBench onFlour(int layers) {
        PastryBench bench = Check.benchOf("bench 1 9 50;sheet 1 butter 1;");
        bench.dust(0);
        for (int i = 1; i < layers; i++) {
            bench.addButter(0, 1);
        }
        Check.same("layers on flour", bench.layerCount(0), layers);
        return bench;
    }

    private static void foldObstacles() {
        PastryBench bench = Check.benchOf("bench 1 9 50;sheet 1 dough 400 butter 400 dough 200;sheet 1 dough 400 butter 400 dough 201;sheet 1 dough 7;");
        folding(bench, 0, 2, 0, 5);
        folding(bench, 0, 3, 0, 7);
        folding(bench, 0, 4, 0, 9);
        folding(bench, 1, 3, 0, 7);
        folding(bench, 1, 4, 3, -1);
        folding(bench, 2, 4, 0, 1);
        bench.dust(0);
        folding(bench, 0, 2, 0, 6);
        folding(bench, 0, 4, 0, 12);
        bench.dust(2);
        folding(bench, 2, 3, 0, 3);
        bench.cool(1);
        folding(bench, 1, 2, 1, -1);
        folding(bench, 1, 4, 1, -1);
        bench.takeOut(1);
        folding(bench, 1, 2, 0, 5);

        folding(onFlour(50), 0, 4, 0, 200);
        folding(onFlour(51), 0, 4, 2, -1);
        folding(onFlour(66), 0, 3, 0, 198);
        folding(onFlour(67), 0, 3, 2, -1);
        folding(onFlour(100), 0, 2, 0, 200);
        folding(onFlour(101), 0, 2, 2, -1);
        PastryBench joined = onFlour(17);
        joined.fold(0, 3);
        Check.same("51 layers without flour", joined.layerCount(0), 51);
        folding(joined, 0, 4, 2, -1);
        folding(joined, 0, 3, 0, 151);
        joined = onFlour(25);
        joined.fold(0, 2);
        folding(joined, 0, 4, 0, 197);
        Check.same("both too many and too high", of200().foldObstacle(0, 2), 2);
    }

    /** 200 layers, 4000 high. */
    private static PastryBench of200() {
        PastryBench bench = Check.benchOf("bench 1 9 50;sheet 1 dough 40 butter 10 dough 40 butter 10 dough 0100;");
        bench.dust(0);
        bench.fold(0, 4);
        bench.dust(0);
        bench.fold(0, 4);
        Check.same("80 layers", bench.layerCount(0), 80);
        bench.roll(0, 2);
        bench.dust(0);
        bench.fold(0, 2);
        Check.same("160 layers", bench.layerCount(0), 160);
        Check.same("3200 high", bench.height(0), 3200);
        bench.dust(0);
        for (int i = 0; i < 40; i++) {
            bench.addButter(0, 20);
        }
        Check.same("200 layers", bench.layerCount(0), 200);
        Check.same("4000 high", bench.height(0), 4000);
        return bench;
    }

    private static void possibleFolds() {
        PastryBench bench = Check.benchOf("bench 1 9 50;sheet 1 dough 1;sheet 1 dough 400 dough 400 dough 200;sheet 1 dough 1 butter 1 dough 1;");
        Check.same("1 to 2048", bench.foldsPossible(0, 2), 11);
        Check.same("1 to 2187", bench.foldsPossible(0, 3), 7);
        Check.same("1 to 1024", bench.foldsPossible(0, 4), 5);
        Check.same("1000 to 4000", bench.foldsPossible(1, 4), 1);
        Check.same("1000 to 4000 by twos", bench.foldsPossible(1, 2), 2);
        Check.same("3 5 9 17 33 65 129", bench.foldsPossible(2, 2), 6);
        Check.same("3 9 33 129", bench.foldsPossible(2, 4), 3);
        bench.dust(2);
        Check.same("6 11 21 41 81 161", bench.foldsPossible(2, 2), 6);
        Check.same("12 45 177", bench.foldsPossible(2, 4), 3);
        Check.same("9 25 73", bench.foldsPossible(2, 3), 3);
        PastryBench wide = Check.benchOf("bench 1 9 50;sheet 1 dough 1 dough 1 dough 1 dough 1;");
        Check.same("4 13 49 193", wide.foldsPossible(0, 4), 3);
        wide.dust(0);
        Check.same("16 61 241: flour only the first time", wide.foldsPossible(0, 4), 2);
        bench.cool(0);
        Check.same("in the refrigerator", bench.foldsPossible(0, 2), 0);
        PastryBench full = of200();
        Check.same("not once", full.foldsPossible(0, 2), 0);
        Check.same("up to 200 layers", onFlour(50).foldsPossible(0, 4), 1);
        Check.same("not up to 204 layers", onFlour(51).foldsPossible(0, 4), 0);
    }

    private static void butterAtRisk() {
        PastryBench bench = Check.benchOf("bench 1 10 5;sheet 14 butter 2 dough 9 butter 4 dough 9 butter 5;sheet 10 butter 5;sheet 11 butter 5;sheet 40 dough 5;");
        Check.same("2 and 4 and 4", bench.butterAtRisk(0), 10);
        Check.same("at the melting point", bench.butterAtRisk(1), 0);
        Check.same("one degree above", bench.butterAtRisk(2), 1);
        Check.same("no butter", bench.butterAtRisk(3), 0);
        bench.cool(0);
        Check.same("in the refrigerator", bench.butterAtRisk(0), 10);
        bench.takeOut(0);
        bench.seal(0);
        Check.same("sealed", bench.butterAtRisk(0), 0);
        bench.cool(0);
        Check.same("sealed in the refrigerator", bench.butterAtRisk(0), 0);
    }

    private static void layersAtRisk() {
        PastryBench bench = Check.benchOf("bench 1 10 5;sheet 12 butter 1 dough 1 butter 4 dough 1 butter 5 butter 6;sheet 9 butter 1 butter 2 butter 3 butter 4 dough 1;");
        Check.same("0 and 1 of 2", bench.layersAtRisk(0, 2), 1);
        Check.same("0 and 2 of 3 and 3 of 3", bench.layersAtRisk(0, 3), 2);
        Check.same("0 and 2 and 3 of 4", bench.layersAtRisk(0, 4), 3);
        Check.same("by 2", bench.layersAtRisk(1, 2), 1);
        Check.same("by 3", bench.layersAtRisk(1, 3), 2);
        Check.same("by 4", bench.layersAtRisk(1, 4), 3);
        bench.seal(0);
        Check.same("sealed", bench.layersAtRisk(0, 4), 1);
        bench.cool(0);
        Check.same("in the refrigerator", bench.layersAtRisk(0, 4), 1);
        PastryBench all = Check.benchOf("bench 1 10 5;sheet 12 butter 1 butter 2;");
        Check.same("all of it", all.layersAtRisk(0, 2), 2);
    }

    private static void heightAfterRoll() {
        PastryBench bench = Check.benchOf("bench 1 10 5;sheet 12 dough 9 butter 5 dough 1 butter 2 dough 7;sheet 12 butter 1 butter 2;");
        Check.same("4 1 1 0 3", bench.heightAfterRoll(0, 2), 9);
        Check.same("3 1 1 0 2", bench.heightAfterRoll(0, 3), 7);
        Check.same("2 0 1 0 1", bench.heightAfterRoll(0, 4), 4);
        Check.same("nothing is left", bench.heightAfterRoll(1, 2), 0);
        bench.cool(0);
        Check.same("in the refrigerator", bench.heightAfterRoll(0, 2), 9);
        bench.takeOut(0);
        bench.seal(0);
        Check.same("sealed: 4 2 1 1 3", bench.heightAfterRoll(0, 2), 11);
    }

    private static void temperatureAfter() {
        PastryBench bench = Check.benchOf("bench 10 10 5;sheet 12 dough 9;sheet 7 dough 1;sheet 10 dough 1;sheet 21 dough 1;sheet 3 dough 1;sheet 4 dough 1;");
        Check.same("now", bench.temperatureAfter(0, 0), 12);
        Check.same("down by one", bench.temperatureAfter(0, 1), 11);
        Check.same("down to the room", bench.temperatureAfter(0, 24), 10);
        Check.same("up by two", bench.temperatureAfter(1, 2), 9);
        Check.same("up to the room", bench.temperatureAfter(1, 4), 10);
        Check.same("equal", bench.temperatureAfter(2, 7), 10);
        bench.cool(3);
        bench.cool(4);
        bench.cool(5);
        Check.same("now, cooling", bench.temperatureAfter(3, 0), 21);
        Check.same("down by four", bench.temperatureAfter(3, 1), 17);
        Check.same("21 17 13 9 5", bench.temperatureAfter(3, 4), 5);
        Check.same("not below 4", bench.temperatureAfter(3, 5), 4);
        Check.same("it stays", bench.temperatureAfter(3, 24), 4);
        Check.same("below 4 stays", bench.temperatureAfter(4, 24), 3);
        Check.same("at 4 stays", bench.temperatureAfter(5, 1), 4);
        Check.badArgument(bench, "hours -1", () -> bench.temperatureAfter(0, -1));
        Check.badArgument(bench, "hours 25", () -> bench.temperatureAfter(0, 25));
        Check.badArgument(bench, "hours least", () -> bench.temperatureAfter(0, Integer.MIN_VALUE));
        Check.badArgument(bench, "hours most", () -> bench.temperatureAfter(0, Integer.MAX_VALUE));
    }

    private static void hoursToSafety() {
        PastryBench bench = Check.benchOf("bench 10 5 5;sheet 5 dough 9;sheet 6 dough 1;sheet 9 dough 1;sheet 10 dough 1;sheet 40 dough 1;sheet 0 dough 1;");
        Check.same("safe now", bench.hoursToSafety(0), 0);
        Check.same("6 4", bench.hoursToSafety(1), 1);
        Check.same("9 5", bench.hoursToSafety(2), 1);
        Check.same("10 6 4", bench.hoursToSafety(3), 2);
        Check.same("40 to 8 to 4", bench.hoursToSafety(4), 9);
        Check.same("cold", bench.hoursToSafety(5), 0);
        bench.cool(4);
        bench.passHours(2);
        Check.same("in the refrigerator already", bench.hoursToSafety(4), 7);
    }

    private static void wrongArguments() {
        PastryBench bench = new PastryBench();
        Check.noSuchSheets(bench, "foldObstacle", i -> bench.foldObstacle(i, 9));
        Check.noSuchSheets(bench, "layersAfterFold", i -> bench.layersAfterFold(i, 9));
        Check.noSuchSheets(bench, "foldsPossible", i -> bench.foldsPossible(i, 9));
        Check.noSuchSheets(bench, "butterAtRisk", bench::butterAtRisk);
        Check.noSuchSheets(bench, "layersAtRisk", i -> bench.layersAtRisk(i, 9));
        Check.noSuchSheets(bench, "heightAfterRoll", i -> bench.heightAfterRoll(i, 9));
        Check.noSuchSheets(bench, "temperatureAfter", i -> bench.temperatureAfter(i, 99));
        Check.noSuchSheets(bench, "hoursToSafety", bench::hoursToSafety);
        bench.cool(0);
        int[] wrong = {1, 5, 0, -2, Integer.MIN_VALUE, Integer.MAX_VALUE};
        for (int factor : wrong) {
            Check.badArgument(bench, "foldObstacle in " + factor, () -> bench.foldObstacle(0, factor));
            Check.badArgument(bench, "layersAfterFold in " + factor, () -> bench.layersAfterFold(0, factor));
            Check.badArgument(bench, "foldsPossible in " + factor, () -> bench.foldsPossible(0, factor));
            Check.badArgument(bench, "layersAtRisk by " + factor, () -> bench.layersAtRisk(0, factor));
            Check.badArgument(bench, "heightAfterRoll by " + factor, () -> bench.heightAfterRoll(0, factor));
        }
    }

    private static void nothingChanges() {
        PastryBench bench = new PastryBench();
        bench.dust(1);
        String before = Check.told(bench);
        bench.foldObstacle(1, 2);
        bench.layersAfterFold(1, 3);
        bench.foldsPossible(1, 4);
        bench.butterAtRisk(1);
        bench.layersAtRisk(1, 4);
        bench.heightAfterRoll(1, 4);
        bench.temperatureAfter(1, 9);
        bench.hoursToSafety(1);
        Check.same("forecasts change nothing", Check.told(bench), before);
    }
}
