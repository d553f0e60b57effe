/** The edges that the terms name: sheets, joining, folding, rolling and hours. */
final class TermEdges {
    private TermEdges() {
    }

    static void check() {
        sheets();
        disappearing();
        layers();
        thicknesses();
        heights();
        temperatures();
        flags();
        joining();
        foldingParts();
        foldingCopies();
        afterFolding();
        rollingFactors();
        rollingEscapes();
        rollingRoundsDown();
        rollingBreaks();
        rollingJoins();
        afterRolling();
        hoursInTheRefrigerator();
        hoursInTheRoom();
    }

    private static void says(String sentence) {
        Sentences.says(Sentences.TERMS, sentence);
    }

    private static PastryBench oneSheet(String sheet) {
        return Check.benchOf("bench 20 18 50;sheet " + sheet + ";");
    }

    private static void sheets() {
        says("There are 0 to 6 sheets, identified by an index, starting at 0.");
        for (int count = 0; count <= 6; count++) {
            PastryBench bench = Edge.sheets(count);
            Check.same("sheets", bench.sheetCount(), count);
            for (int i = 0; i < count; i++) {
                Check.same("sheet " + i, bench.temperature(i), 10 + i);
            }
            int behind = count;
            Check.noSheet(bench, "behind the last", () -> bench.temperature(behind));
        }
        Check.same("the sixth by cutting", Edge.sheets(5).cut(0), 5);
        PastryBench full = Edge.sheets(6);
        Check.badState(full, "a seventh by cutting", () -> full.cut(0));
        PastryBench last = Edge.sheets(2);
        last.stack(0, 1);
        Check.same("no fewer than one by stacking", last.sheetCount(), 1);
    }

    private static void disappearing() {
        says("If a sheet disappears, the indexes of the sheets behind it decrease by 1.");
        Check.same("the first", rowsAfterStacking(5, 0), "D2 | D3 | D4 | D5 | D7");
        Check.same("one between", rowsAfterStacking(0, 3), "D5 | D2 | D3 | D5 | D6");
        Check.same("the last but one", rowsAfterStacking(5, 4), "D1 | D2 | D3 | D4 | D11");
        Check.same("the last", rowsAfterStacking(0, 5), "D7 | D2 | D3 | D4 | D5");
    }

    private static String rowsAfterStacking(int lower, int upper) {
        PastryBench bench = Check.benchOf("bench 1 9 5;sheet 1 dough 1;sheet 1 dough 2;sheet 1 dough 3;sheet 1 dough 4;"
                + "sheet 1 dough 5;sheet 1 dough 6;");
        bench.stack(lower, upper);
        Check.noSheet(bench, "one index less", () -> bench.layerCount(5));
        return Edge.rows(bench);
    }

    private static void layers() {
        says("A sheet is a stack of 1 to 200 layers, numbered from the bottom, starting at 0.");
        PastryBench one = oneSheet("19 butter 3");
        Check.same("the only layer", one.thickness(0, 0), 3);
        Check.noSheet(one, "a second layer", () -> one.thickness(0, 1));
        Check.badState(one, "no layer would be left", () -> one.roll(0, 3));
        Check.same("one layer is left", one.roll(0, 2), 1);
        PastryBench numbered = oneSheet("1 dough 7 butter 8 dough 9");
        Check.same("from the bottom", numbered.thickness(0, 0) * 100 + numbered.thickness(0, 2), 709);
        PastryBench full = Edge.onFlour(200);
        Check.same("the top layer", full.thickness(0, 199), 1);
        Check.noSheet(full, "a layer more", () -> full.thickness(0, 200));
        Check.badState(full, "more by butter", () -> full.addButter(0, 1));
        Check.badState(full, "more by folding", () -> full.fold(0, 2));
        Check.same("200 by butter", Edge.onFlour(199).addButter(0, 1), 200);
        Check.same("200 by folding", Edge.onFlour(100).fold(0, 2), 200);
        Check.same("200 by stacking", Edge.onFlour(199, "sheet 1 butter 1;").stack(0, 1), 200);
        PastryBench more = Edge.onFlour(200, "sheet 1 butter 1;");
        Check.badState(more, "201 by stacking", () -> more.stack(0, 1));
    }

    private static void thicknesses() {
        says("A layer is dough or butter and has a thickness from 1 to 4000, measured in tenths of a millimeter.");
        PastryBench thin = oneSheet("1 dough 1 butter 1");
        Edge.told(thin, 0, "D1 B1 / 1  folds 0 expected 2");
        thin.roll(0, 4);
        Edge.told(thin, 0, "D1 / 3  folds 0 expected 1");
        String[] kinds = {"dough", "butter"};
        for (String kind : kinds) {
            PastryBench thick = oneSheet("1 " + kind + " 400");
            thick.roll(0, 2);
            thick.fold(0, 4);
            thick.fold(0, 4);
            Check.same(kind, thick.thickness(0, 0), 3200);
            PastryBench thickest = oneSheet("1 " + kind + " 250");
            thickest.fold(0, 4);
            Check.same(kind, thickest.fold(0, 4), 1);
            Check.same(kind, thickest.thickness(0, 0), 4000);
            Check.badState(thickest, "thicker by folding", () -> thickest.fold(0, 2));
            Check.badState(thickest, "thicker by butter", () -> thickest.addButter(0, 1));
        }
    }

    private static void heights() {
        says("The height of a sheet is the sum of the thicknesses of its layers; it is at most 4000.");
        Check.same("the sum", oneSheet("1 dough 1 butter 20 dough 300").height(0), 321);
        for (int parts = 2; parts <= 4; parts++) {
            int tried = parts;
            PastryBench fits = Edge.high(4000 / parts);
            Check.accepts("up to 4000 in " + parts, () -> fits.fold(0, tried));
            Check.same("height in " + parts, fits.height(0), 4000 / parts * parts);
            PastryBench over = Edge.high(4000 / parts + 1);
            Check.badState(over, "beyond 4000 in " + parts, () -> over.fold(0, tried));
        }
        PastryBench highest = Edge.highest();
        Check.badState(highest, "4001 by butter", () -> highest.addButter(0, 1));
        highest.cut(0);
        Check.badState(highest, "8000 by stacking", () -> highest.stack(0, 1));
    }

    private static void temperatures() {
        says("A sheet has a temperature from 0 to 40 degrees.");
        PastryBench cold = Check.benchOf("bench 0 5 5;sheet 0 dough 1;sheet 0 dough 1;sheet 1 dough 1;");
        cold.cool(1);
        cold.passHours(24);
        Check.same("not below 0", cold.temperature(0) + cold.temperature(1) + cold.temperature(2), 0);
        PastryBench hot = Check.benchOf("bench 40 5 5;sheet 40 dough 1;sheet 39 dough 1;sheet 16 dough 1;");
        hot.passHours(24);
        hot.fold(0, 2);
        hot.roll(0, 2);
        for (int i = 0; i < 3; i++) {
            Check.same("not above 40, sheet " + i, hot.temperature(i), 40);
        }
    }

    private static void flags() {
        says("It may be dusted with flour, its edges may be sealed, and it may be in the refrigerator.");
        PastryBench bench = Edge.sheets(2);
        Check.same("none of it", Check.flags(bench, 0), "");
        bench.dust(0);
        bench.seal(0);
        bench.cool(0);
        Check.same("all of it at once", Check.flags(bench, 0), "dusted sealed cooling");
        Check.same("the other one not", Check.flags(bench, 1), "");
        says("The bench has a stock of flour portions, a room temperature and a melting point of butter.");
        Check.same("the bench", bench.flour() + " " + bench.roomTemperature() + " " + bench.meltingPoint(), "8 20 18");
    }

    private static String stacked(String lower, String upper, boolean flour) {
        PastryBench bench = Check.benchOf("bench 20 18 5;sheet 1 " + lower + ";sheet 1 " + upper + ";");
        if (flour) {
            bench.dust(0);
        }
        int layers = bench.stack(0, 1);
        Check.same("layers", bench.layerCount(0), layers);
        return Check.layers(bench, 0);
    }

    private static void joining() {
        says("When one stack is put on another, the top layer of the lower stack and the bottom layer of the upper stack meet.");
        Check.same("top and bottom", stacked("butter 1 dough 2", "dough 3 butter 4", false), "B1 D5 B4");
        Check.same("no other layers", stacked("dough 1 butter 2", "dough 3 butter 4", false), "D1 B2 D3 B4");
        Check.same("no others of one kind", stacked("dough 1 dough 2", "dough 3 dough 4", false), "D1 D5 D4");
        says("If both are dough and nothing separates them, they are joined into one layer whose thickness is the sum of both.");
        Check.same("both dough", stacked("dough 1", "dough 400", false), "D401");
        Check.same("dough under butter", stacked("dough 1", "butter 400", false), "D1 B400");
        Check.same("dough on butter", stacked("butter 1", "dough 400", false), "B1 D400");
        says("Butter layers that meet are joined in the same way.");
        Check.same("both butter", stacked("butter 1", "butter 400", false), "B401");
        says("Layers that meet on flour stay separate.");
        Check.same("dough on flour", stacked("dough 1", "dough 400", true), "D1 D400");
        Check.same("butter on flour", stacked("butter 1", "butter 400", true), "B1 B400");
    }

    private static void foldingParts() {
        says("A sheet is folded in 2, 3 or 4 parts.");
        for (int parts = 2; parts <= 4; parts++) {
            Check.same("in " + parts, oneSheet("1 dough 1 butter 1").fold(0, parts), parts + 1);
        }
        int[] wrong = {0, 1, 5, -2, Integer.MAX_VALUE};
        for (int parts : wrong) {
            PastryBench bench = oneSheet("1 dough 1 butter 1");
            Check.badArgument(bench, "in " + parts, () -> bench.fold(0, parts));
        }
    }

    private static String folded(String layers, int parts, boolean flour) {
        PastryBench bench = oneSheet("1 " + layers);
        if (flour) {
            bench.dust(0);
        }
        Check.same("layers", bench.layersAfterFold(0, parts), bench.fold(0, parts));
        return Check.layers(bench, 0);
    }

    private static void foldingCopies() {
        says("The folded sheet consists of as many copies of the stack, put on each other from the bottom: the first copy as it is, "
                + "the second one upside down, the third one as it is, and the fourth one upside down.");
        Check.same("two", folded("dough 1 butter 2", 2, true), "D1 B2 B2 D1");
        Check.same("three", folded("dough 1 butter 2", 3, true), "D1 B2 B2 D1 D1 B2");
        Check.same("four", folded("dough 1 butter 2", 4, true), "D1 B2 B2 D1 D1 B2 B2 D1");
        says("Layers meet at each of these places; if the sheet is dusted, they stay separate at all of them, otherwise they are joined.");
        Check.same("two", folded("dough 1 butter 2", 2, false), "D1 B4 D1");
        Check.same("three", folded("dough 1 butter 2", 3, false), "D1 B4 D2 B2");
        Check.same("four", folded("dough 1 butter 2", 4, false), "D1 B4 D2 B4 D1");
        Check.same("one layer in four", folded("butter 3", 4, false), "B12");
        Check.same("one layer in four on flour", folded("butter 3", 4, true), "B3 B3 B3 B3");
        Check.same("layers of one kind in the stack", folded("dough 1 dough 2 dough 3", 3, false), "D1 D2 D6 D2 D2 D2 D3");
        Check.same("two layers of one kind", folded("butter 1 butter 2", 4, false), "B1 B4 B2 B4 B1");
    }

    private static void afterFolding() {
        says("After folding, the sheet is not dusted any more, and its temperature is 2 degrees higher, but at most 40.");
        for (int temperature = 0; temperature <= 40; temperature++) {
            PastryBench bench = oneSheet(temperature + " dough 1");
            bench.dust(0);
            bench.seal(0);
            bench.fold(0, 2);
            int due = temperature < 38 ? temperature + 2 : 40;
            Edge.told(bench, 0, "D1 D1 / " + due + " sealed  folds 1 expected 2");
        }
        PastryBench again = oneSheet("1 dough 1");
        again.dust(0);
        again.fold(0, 2);
        Check.same("joined the second time", again.fold(0, 2), 3);
    }

    private static void rollingFactors() {
        says("A sheet is rolled with a factor of 2, 3 or 4.");
        Check.same("by 2", rolled("1 dough 12", 2), "D6");
        Check.same("by 3", rolled("1 dough 12", 3), "D4");
        Check.same("by 4", rolled("1 dough 12", 4), "D3");
        int[] wrong = {0, 1, 5, -2, Integer.MIN_VALUE};
        for (int factor : wrong) {
            PastryBench bench = oneSheet("1 dough 12");
            Check.badArgument(bench, "by " + factor, () -> bench.roll(0, factor));
        }
    }

    /** Rolls on a bench where butter melts above 18; the forecasts must tell the same. */
    private static String rolled(String sheet, int factor) {
        PastryBench bench = oneSheet(sheet);
        int escapes = bench.butterAtRisk(0);
        int breaks = bench.layersAtRisk(0, factor);
        int high = bench.heightAfterRoll(0, factor);
        int left = bench.roll(0, factor);
        Check.same("escaped", bench.escapedButter(), escapes);
        Check.same("broken", bench.brokenLayers(), breaks);
        Check.same("height", bench.height(0), high);
        Check.same("layers", bench.layerCount(0) * 1000 + bench.expectedLayers(0), left * 1001);
        return Check.layers(bench, 0);
    }

    private static void escapes(int temperature, String butter, int due) {
        PastryBench bench = oneSheet(temperature + " dough 9 butter " + butter + " dough 9");
        Check.same("at risk at " + temperature, bench.butterAtRisk(0), due);
        bench.roll(0, 2);
        Check.same("escaped at " + temperature, bench.escapedButter(), due);
    }

    private static void rollingEscapes() {
        says("If the temperature of the sheet is above the melting point and its edges are not sealed, as many tenths of a millimeter "
                + "escape from each butter layer as the temperature is above the melting point, but not more than its thickness.");
        escapes(17, "30", 0);
        escapes(18, "30", 0);
        escapes(19, "30", 1);
        escapes(40, "30", 22);
        escapes(0, "30", 0);
        escapes(21, "2", 2);
        escapes(21, "3", 3);
        escapes(21, "4", 3);
        escapes(21, "2 butter 3 butter 4", 8);
        PastryBench sealed = oneSheet("40 dough 9 butter 30 dough 9");
        sealed.seal(0);
        Check.same("sealed", sealed.roll(0, 2) + Check.layers(sealed, 0) + sealed.escapedButter(), "3D4 B15 D40");
        Check.same("dough stays", rolled("40 dough 9", 3), "D3");
        Check.same("what is left is divided", rolled("21 dough 2 butter 10", 2), "D1 B3");
    }

    private static void rollingRoundsDown() {
        says("The thickness of each layer is divided by the factor and rounded down.");
        Check.same("by 2", rolled("1 dough 8 butter 9 dough 10 butter 11", 2), "D4 B4 D5 B5");
        Check.same("by 3", rolled("1 dough 8 butter 9 dough 10 butter 11", 3), "D2 B3 D3 B3");
        Check.same("by 4", rolled("1 dough 8 butter 9 dough 11 butter 12", 4), "D2 B2 D2 B3");
        Check.same("each layer by itself", rolled("1 dough 3 dough 3 dough 3", 2), "D1 D1 D1");
        says("A dough layer keeps a thickness of at least 1.");
        Check.same("by 2", rolled("1 dough 1 dough 2 dough 3 dough 4", 2), "D1 D1 D1 D2");
        Check.same("by 3", rolled("1 dough 1 dough 2 dough 3 dough 5 dough 6", 3), "D1 D1 D1 D1 D2");
        Check.same("by 4", rolled("1 dough 1 dough 3 dough 4 dough 7 dough 8", 4), "D1 D1 D1 D1 D2");
    }

    private static void rollingBreaks() {
        says("A butter layer whose thickness is 0 then is broken: it disappears.");
        for (int factor = 2; factor <= 4; factor++) {
            Check.same("one less than " + factor, rolled("18 dough 4 butter " + (factor - 1), factor), "D" + 4 / factor);
            Check.same("as much as " + factor, rolled("18 dough 4 butter " + factor, factor), "D" + 4 / factor + " B1");
            Check.same("warm, one less than " + factor, rolled("20 dough 4 butter " + (factor + 1), factor), "D" + 4 / factor);
            Check.same("warm, as much as " + factor, rolled("20 dough 4 butter " + (factor + 2), factor), "D" + 4 / factor + " B1");
        }
        Check.same("nothing left of it before", rolled("40 dough 4 butter 22", 2), "D2");
        Check.same("less than could escape", rolled("40 dough 4 butter 1", 2), "D2");
        PastryBench twice = oneSheet("1 dough 8 butter 2 dough 8");
        twice.roll(0, 2);
        Check.same("not broken yet", twice.brokenLayers(), 0);
        Check.same("broken the second time", twice.roll(0, 2), 1);
        Check.same("one is broken", twice.brokenLayers(), 1);
    }

    private static void rollingJoins() {
        says("Where one or more neighboring butter layers disappeared, the layer below and the layer above meet without flour, if both exist.");
        Check.same("one", rolled("1 dough 4 butter 1 dough 6", 2), "D5");
        Check.same("more", rolled("1 dough 4 butter 1 butter 1 butter 1 dough 6", 2), "D5");
        Check.same("two places", rolled("1 dough 4 butter 1 dough 6 butter 1 dough 8", 2), "D9");
        Check.same("none below", rolled("1 butter 1 dough 4 dough 6", 2), "D2 D3");
        Check.same("none above", rolled("1 dough 4 dough 6 butter 1", 2), "D2 D3");
        Check.same("none below and none above", rolled("1 butter 1 butter 1 dough 6 butter 1", 2), "D3");
        Check.same("butter below and above", rolled("1 butter 4 butter 1 butter 6", 2), "B5");
        Check.same("kinds differ", rolled("1 dough 4 butter 1 butter 6", 2), "D2 B3");
        Check.same("kinds differ the other way", rolled("1 butter 4 butter 1 dough 6", 2), "B2 D3");
        Check.same("where none disappeared they stay", rolled("1 dough 4 dough 4 butter 1 dough 6 dough 6", 2), "D2 D5 D3");
        PastryBench dusted = oneSheet("1 dough 4 butter 1 dough 6");
        dusted.dust(0);
        Check.same("the flour is on top", dusted.roll(0, 2), 1);
        PastryBench floured = oneSheet("1 butter 1 dough 6");
        floured.dust(0);
        floured.fold(0, 2);
        Edge.told(floured, 0, "B1 D6 D6 B1 / 3  folds 1 expected 4");
        floured.roll(0, 2);
        Edge.told(floured, 0, "D3 D3 / 5  folds 1 expected 2");
    }

    private static void afterRolling() {
        says("After rolling, the edges are not sealed any more, a dusted sheet stays dusted, and the temperature of the sheet is "
                + "2 degrees higher, but at most 40.");
        for (int temperature = 0; temperature <= 40; temperature++) {
            PastryBench bench = oneSheet(temperature + " dough 8");
            bench.dust(0);
            bench.seal(0);
            bench.roll(0, 2);
            int due = temperature < 38 ? temperature + 2 : 40;
            Edge.told(bench, 0, "D4 / " + due + " dusted  folds 0 expected 1");
        }
        PastryBench plain = oneSheet("1 dough 8");
        plain.roll(0, 2);
        Check.same("not dusted by it", Check.flags(plain, 0), "");
    }

    private static void hoursInTheRefrigerator() {
        says("When an hour passes, the temperature of each sheet in the refrigerator decreases by 4 degrees, but not below 4 "
                + "(a temperature below 4 stays).");
        for (int temperature = 0; temperature <= 40; temperature++) {
            PastryBench bench = oneSheet(temperature + " dough 8");
            bench.cool(0);
            int due = temperature < 4 ? temperature : temperature < 8 ? 4 : temperature - 4;
            Check.same("told of " + temperature, bench.temperatureAfter(0, 1), due);
            bench.passHours(1);
            Check.same("after " + temperature, bench.temperature(0), due);
        }
    }

    private static void hoursInTheRoom() {
        says("The temperature of any other sheet changes by 1 degree toward the room temperature, if it is not equal to it.");
        int[] rooms = {0, 20, 40};
        for (int room : rooms) {
            for (int temperature = 0; temperature <= 40; temperature++) {
                PastryBench bench = Check.benchOf("bench " + room + " 5 0;sheet " + temperature + " dough 8;");
                int due = temperature + Integer.compare(room, temperature);
                Check.same("told of " + temperature, bench.temperatureAfter(0, 1), due);
                bench.passHours(1);
                Check.same("after " + temperature, bench.temperature(0), due);
            }
        }
    }
}
