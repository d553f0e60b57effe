/** The edges of reasons and forecasts: promises 33 to 40. */
final class ForecastEdges {
    private static final String NO_PARTS = "Throws `IllegalArgumentException` if parts is out of range";
    private static final String NO_FACTOR = "Throws `IllegalArgumentException` if factor is out of range";
    private static final String PARTS = "- `parts`: 2, 3 or 4";
    private static final String FACTORS = "- `factor`: 2, 3 or 4";

    private ForecastEdges() {
    }

    static void check() {
        foldObstacle();
        layersAfterFold();
        foldsPossible();
        butterAtRisk();
        layersAtRisk();
        heightAfterRoll();
        temperatureAfter();
        hoursToSafety();
        changeNothing();
    }

    private static PastryBench oneSheet(String sheet) {
        return Check.benchOf("bench 20 18 50;sheet " + sheet + ";");
    }

    /** The forecast and what folding does must be the same. */
    private static void folding(String what, PastryBench bench, int parts, int obstacle, int layers) {
        Check.same(what + ": obstacle in " + parts, bench.foldObstacle(0, parts), obstacle);
        Check.same(what + ": layers in " + parts, bench.layersAfterFold(0, parts), layers);
        Check.same(what + ": possible in " + parts, bench.foldsPossible(0, parts) > 0, obstacle == 0);
        if (obstacle == 0) {
            Check.same(what + ": fold in " + parts, bench.fold(0, parts), layers);
        } else {
            Check.badState(bench, what + ": fold in " + parts, () -> bench.fold(0, parts));
        }
    }

    private static void foldObstacle() {
        Sentences.says(33, "Tells why a sheet cannot be folded.");
        Check.same("it can", new PastryBench().foldObstacle(0, 2), 0);
        Sentences.says(33, "Returns 0 if it can; otherwise the first of these that holds: 1 if it is in the refrigerator, 2 if it would have "
                + "more than 200 layers, 3 if its height would exceed 4000.");
        PastryBench cooling = oneSheet("1 dough 1");
        cooling.cool(0);
        folding("in the refrigerator", cooling, 2, 1, -1);
        tooManyLayers();
        for (int parts = 2; parts <= 4; parts++) {
            folding("up to 4000", Edge.high(4000 / parts), parts, 0, new int[] {9, 10, 9}[parts - 2]);
            folding("beyond 4000", Edge.high(4000 / parts + 1), parts, 3, -1);
        }
        folding("much beyond 4000", Edge.highest(), 2, 3, -1);
        firstObstacle();
        Edge.sheetIndex(33, (bench, sheet) -> bench.foldObstacle(sheet, 2));
        Edge.range(33, PARTS, NO_PARTS, 2, 4, (bench, parts) -> bench.foldObstacle(0, parts));
    }

    private static void tooManyLayers() {
        folding("100 on flour", Edge.onFlour(100), 2, 0, 200);
        folding("101 on flour", Edge.onFlour(101), 2, 2, -1);
        folding("66 on flour", Edge.onFlour(66), 3, 0, 198);
        folding("67 on flour", Edge.onFlour(67), 3, 2, -1);
        folding("50 on flour", Edge.onFlour(50), 4, 0, 200);
        folding("51 on flour", Edge.onFlour(51), 4, 2, -1);
        String[] kinds = {"dough", "butter"};
        for (String kind : kinds) {
            folding("100 joined", Edge.withTop(100, kind), 2, 0, 199);
            folding("101 joined", Edge.withTop(101, kind), 2, 2, -1);
            folding("67 joined", Edge.withTop(67, kind), 3, 0, 199);
            folding("68 joined", Edge.withTop(68, kind), 3, 2, -1);
            folding("50 joined", Edge.withTop(50, kind), 4, 0, 197);
            folding("51 joined", Edge.withTop(51, kind), 4, 2, -1);
        }
    }

    private static void firstObstacle() {
        PastryBench high = Edge.highest();
        high.cool(0);
        folding("in the refrigerator and too high", high, 2, 1, -1);
        PastryBench full = Edge.onFlour(200);
        full.cool(0);
        folding("in the refrigerator and full", full, 2, 1, -1);
        PastryBench both = Edge.onFlour(90);
        for (int i = 0; i < 10; i++) {
            both.addButter(0, 390);
        }
        Check.same("layers and height", both.layerCount(0) * 10000 + both.height(0), 1003990);
        folding("too high alone", both, 2, 3, -1);
        both.addButter(0, 1);
        folding("full and too high", both, 2, 2, -1);
        both.cool(0);
        folding("all three", both, 2, 1, -1);
    }

    private static void layersAfterFold() {
        Sentences.says(34, "Returns the number of layers that a sheet would have after folding.");
        PastryBench bench = new PastryBench();
        Check.same("in 2, 3, 4", bench.layersAfterFold(0, 2) * 10000 + bench.layersAfterFold(0, 3) * 100 + bench.layersAfterFold(0, 4), 50709);
        bench.dust(0);
        Check.same("on flour", bench.layersAfterFold(0, 2) * 10000 + bench.layersAfterFold(0, 3) * 100 + bench.layersAfterFold(0, 4), 60912);
        Sentences.says(34, "Returns the number of layers; -1 if it cannot be folded.");
        Check.same("one layer", oneSheet("1 dough 1").layersAfterFold(0, 4), 1);
        Check.same("200 layers", Edge.onFlour(50).layersAfterFold(0, 4), 200);
        Check.same("too many", Edge.onFlour(51).layersAfterFold(0, 4), -1);
        Check.same("4000 high", Edge.high(1000).layersAfterFold(0, 4), 9);
        Check.same("too high", Edge.high(1001).layersAfterFold(0, 4), -1);
        bench.cool(0);
        Check.same("in the refrigerator", bench.layersAfterFold(0, 2), -1);
        Edge.sheetIndex(34, (any, sheet) -> Check.same("layers", any.layersAfterFold(sheet, 2), 5));
        Edge.range(34, PARTS, NO_PARTS, 2, 4, (any, parts) -> any.layersAfterFold(0, parts));
    }

    /** Counts the folds by folding, and takes them back through the snapshot. */
    private static void possible(String what, PastryBench bench, int parts, int due) {
        Check.same(what + " in " + parts, bench.foldsPossible(0, parts), due);
        bench.saveSnapshot();
        int folds = 0;
        while (bench.foldObstacle(0, parts) == 0 && folds < 20) {
            bench.fold(0, parts);
            folds++;
        }
        bench.restoreSnapshot();
        Check.same(what + " folded in " + parts, folds, due);
    }

    private static void foldsPossible() {
        Sentences.says(35, "Counts the folds that are possible one after the other.");
        possible("the first sheet", new PastryBench(), 2, 4);
        possible("the first sheet", new PastryBench(), 3, 2);
        Sentences.says(35, "Returns how many times the sheet can be folded in these parts, without dusting it in between (a sheet that is dusted "
                + "now is folded on this flour the first time), until it cannot be folded any more.");
        PastryBench cooling = oneSheet("1 dough 1");
        cooling.cool(0);
        possible("in the refrigerator", cooling, 2, 0);
        possible("full", Edge.onFlour(200), 2, 0);
        possible("highest", Edge.highest(), 2, 0);
        possible("one thin layer", oneSheet("1 dough 1"), 2, 11);
        possible("one thin layer", oneSheet("1 dough 1"), 3, 7);
        possible("one thin layer", oneSheet("1 dough 1"), 4, 5);
        possible("up to 4000", Edge.high(1000), 2, 2);
        possible("up to 4002", Edge.high(1001), 2, 1);
        possible("up to 4000", Edge.high(250), 4, 2);
        possible("beyond 4000", Edge.high(251), 4, 1);
        possible("up to 3996", Edge.high(444), 3, 2);
        possible("beyond 4000", Edge.high(445), 3, 1);
        for (int parts = 2; parts <= 4; parts++) {
            int most = 200 / parts;
            possible("on flour, " + most, Edge.onFlour(most), parts, 1);
            possible("on flour, one more", Edge.onFlour(most + 1), parts, 0);
        }
        possible("13 to 193", Edge.withTop(13, "dough"), 4, 2);
        possible("14 to 209", Edge.withTop(14, "dough"), 4, 1);
        possible("12 on flour to 189", Edge.onFlour(12), 4, 2);
        possible("13 on flour to 205", Edge.onFlour(13), 4, 1);
        possible("joined twice 51 to 201", Edge.withTop(51, "dough"), 2, 1);
        possible("joined twice 50 to 197", Edge.withTop(50, "dough"), 2, 2);
        Edge.sheetIndex(35, (any, sheet) -> Check.same("possible", any.foldsPossible(sheet, 4), 3));
        Edge.range(35, PARTS, NO_PARTS, 2, 4, (any, parts) -> any.foldsPossible(0, parts));
    }

    private static void butterAtRisk() {
        Sentences.says(36, "Returns the butter that would escape if a sheet was rolled now.");
        Check.same("at first", new PastryBench().butterAtRisk(0) * 10 + new PastryBench().butterAtRisk(1), 4);
        Sentences.says(36, "Returns the number of tenths of a millimeter, whether it is in the refrigerator or not.");
        String layers = " butter 2 dough 9 butter 3 dough 9 butter 4";
        int[][] due = {{0, 0}, {18, 0}, {19, 3}, {20, 6}, {21, 8}, {22, 9}, {23, 9}, {40, 9}};
        for (int[] row : due) {
            PastryBench bench = oneSheet(row[0] + layers);
            Check.same("at " + row[0], bench.butterAtRisk(0), row[1]);
            bench.cool(0);
            Check.same("in the refrigerator at " + row[0], bench.butterAtRisk(0), row[1]);
            bench.takeOut(0);
            bench.seal(0);
            Check.same("sealed at " + row[0], bench.butterAtRisk(0), 0);
            bench.cool(0);
            Check.same("sealed in the refrigerator at " + row[0], bench.butterAtRisk(0), 0);
        }
        Check.same("no butter", oneSheet("40 dough 9").butterAtRisk(0), 0);
        Edge.sheetIndex(36, (any, sheet) -> Check.same("at risk", any.butterAtRisk(sheet), 0));
    }

    private static void layersAtRisk() {
        Sentences.says(37, "Returns the number of butter layers that would break if a sheet was rolled now.");
        Check.same("at first", new PastryBench().layersAtRisk(1, 2), 1);
        Sentences.says(37, "Returns the number of butter layers, whether it is in the refrigerator or not.");
        for (int factor = 2; factor <= 4; factor++) {
            String butter = " butter " + (factor - 1) + " butter " + factor + " butter " + (factor + 1) + " dough 1";
            int[][] due = {{0, 1}, {18, 1}, {19, 2}, {20, 3}, {40, 3}};
            for (int[] row : due) {
                PastryBench bench = oneSheet(row[0] + butter);
                Check.same("by " + factor + " at " + row[0], bench.layersAtRisk(0, factor), row[1]);
                bench.cool(0);
                Check.same("in the refrigerator", bench.layersAtRisk(0, factor), row[1]);
                bench.takeOut(0);
                bench.seal(0);
                Check.same("sealed", bench.layersAtRisk(0, factor), 1);
            }
        }
        Check.same("no butter", oneSheet("40 dough 1").layersAtRisk(0, 4), 0);
        Check.same("all of it", oneSheet("40 butter 1 butter 22").layersAtRisk(0, 4), 2);
        Edge.sheetIndex(37, (any, sheet) -> Check.same("at risk", any.layersAtRisk(sheet, 4), 0));
        Edge.range(37, FACTORS, NO_FACTOR, 2, 4, (any, factor) -> any.layersAtRisk(0, factor));
    }

    private static void heightAfterRoll() {
        Sentences.says(38, "Returns the height that a sheet would have after rolling.");
        Check.same("at first", new PastryBench().heightAfterRoll(0, 4), 40);
        Sentences.says(38, "Returns the height, whether it is in the refrigerator or not.");
        PastryBench bench = oneSheet("20 dough 9 butter 5 dough 1 butter 2 dough 7");
        Check.same("4 1 1 0 3", bench.heightAfterRoll(0, 2), 9);
        Check.same("3 1 1 0 2", bench.heightAfterRoll(0, 3), 7);
        Check.same("2 0 1 0 1", bench.heightAfterRoll(0, 4), 4);
        bench.cool(0);
        Check.same("in the refrigerator", bench.heightAfterRoll(0, 2), 9);
        bench.takeOut(0);
        bench.seal(0);
        Check.same("sealed: 4 2 1 1 3", bench.heightAfterRoll(0, 2), 11);
        PastryBench nothing = oneSheet("20 butter 3 butter 1");
        Check.same("nothing is left", nothing.heightAfterRoll(0, 2), 0);
        nothing.seal(0);
        Check.same("1 of it is left", nothing.heightAfterRoll(0, 2), 1);
        Check.same("thin dough", oneSheet("1 dough 1 dough 1").heightAfterRoll(0, 4), 2);
        Check.same("the highest", Edge.highest().heightAfterRoll(0, 2), 2000);
        Edge.sheetIndex(38, (any, sheet) -> Check.same("height", any.heightAfterRoll(sheet, 4), 6));
        Edge.range(38, FACTORS, NO_FACTOR, 2, 4, (any, factor) -> any.heightAfterRoll(0, factor));
    }

    private static void temperatureAfter() {
        Sentences.says(39, "Returns the temperature of a sheet after some hours, if nothing but hours happens.");
        Check.same("at first", new PastryBench().temperatureAfter(0, 5), 15);
        Sentences.says(39, "Returns the temperature then.");
        for (int temperature = 0; temperature <= 40; temperature++) {
            after(temperature, 20, false);
            after(temperature, 0, false);
            after(temperature, 40, false);
            after(temperature, 20, true);
        }
        PastryBench old = Edge.after(9999);
        Check.same("told beyond 9999 hours too", old.temperatureAfter(0, 24), 22);
        Edge.sheetIndex(39, (any, sheet) -> Check.same("now", any.temperatureAfter(sheet, 0), 10 + sheet));
        Edge.range(39, "- `hours`: 0 to 24", "Throws `IllegalArgumentException` if hours is out of range", 0, 24,
                (any, hours) -> any.temperatureAfter(0, hours));
    }

    private static void after(int temperature, int room, boolean cooling) {
        PastryBench bench = Check.benchOf("bench " + room + " 18 0;sheet " + temperature + " dough 1;");
        if (cooling) {
            bench.cool(0);
        }
        int[] told = new int[25];
        for (int hours = 0; hours <= 24; hours++) {
            told[hours] = bench.temperatureAfter(0, hours);
        }
        Check.same("now", told[0], temperature);
        for (int hours = 1; hours <= 24; hours++) {
            bench.passHours(1);
            Check.same("from " + temperature + " after " + hours, told[hours], bench.temperature(0));
        }
    }

    private static void hoursToSafety() {
        Sentences.says(40, "Counts the hours in the refrigerator that a sheet needs to be safe.");
        Check.same("at first", new PastryBench().hoursToSafety(1), 1);
        Sentences.says(40, "Returns the smallest number of hours after which its temperature is at most the melting point, if it is in the "
                + "refrigerator from now on; 0 if it is now.");
        for (int melting = 5; melting <= 35; melting += 10) {
            for (int temperature = 0; temperature <= 40; temperature++) {
                PastryBench bench = Check.benchOf("bench 40 " + melting + " 0;sheet " + temperature + " dough 1;");
                int due = Math.max(0, (temperature - melting + 3) / 4);
                Check.same(temperature + " to " + melting, bench.hoursToSafety(0), due);
                bench.cool(0);
                Check.same(temperature + " to " + melting + " in it", bench.hoursToSafety(0), due);
            }
        }
        Check.same("the most", Check.benchOf("bench 40 5 0;sheet 40 dough 1;").hoursToSafety(0), 9);
        Edge.sheetIndex(40, (any, sheet) -> Check.same("safe", any.hoursToSafety(sheet), 0));
    }

    private static void changeNothing() {
        Check.about("reasons and forecasts; these methods change nothing");
        PastryBench bench = Edge.sheets(2);
        bench.dust(1);
        bench.seal(1);
        String before = Check.told(bench);
        bench.foldObstacle(1, 2);
        bench.layersAfterFold(1, 3);
        bench.foldsPossible(1, 4);
        bench.butterAtRisk(1);
        bench.layersAtRisk(1, 4);
        bench.heightAfterRoll(1, 4);
        bench.temperatureAfter(1, 24);
        bench.hoursToSafety(1);
        Check.same("the bench", Check.told(bench), before);
    }
}
