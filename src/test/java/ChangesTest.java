/** Promises 41 to 51: the changes. */
public final class ChangesTest {
    public static void main(String[] args) {
        folding();
        foldingRefused();
        rolling();
        rollingJoins();
        rollingRefused();
        dusting();
        sealing();
        cooling();
        takingOut();
        hours();
        hoursRefused();
        cutting();
        stacking();
        stackingRefused();
        addingButter();
        buyingFlour();
        noSuchSheet();
        wrongArguments();
        Check.finish("ChangesTest");
    }

    private static void told(PastryBench bench, int sheet, String due) {
        Check.same("sheet " + sheet, Check.toldSheet(bench, sheet), due);
    }

    private static void folding() {
        PastryBench bench = Check.benchOf("bench 1 9 50;sheet 37 dough 1 butter 2 dough 3 butter 4;sheet 1 dough 5;sheet 1 dough 1 dough 2;");
        Check.same("fold in 2", bench.fold(0, 2), 7);
        told(bench, 0, "D1 B2 D3 B8 D3 B2 D1 / 39  folds 1 expected 7");
        bench.undo();
        Check.same("fold in 3", bench.fold(0, 3), 10);
        told(bench, 0, "D1 B2 D3 B8 D3 B2 D2 B2 D3 B4 / 39  folds 1 expected 10");
        bench.undo();
        Check.same("fold in 4", bench.fold(0, 4), 13);
        told(bench, 0, "D1 B2 D3 B8 D3 B2 D2 B2 D3 B8 D3 B2 D1 / 39  folds 1 expected 13");
        bench.undo();
        bench.dust(0);
        Check.same("fold on flour", bench.fold(0, 3), 12);
        told(bench, 0, "D1 B2 D3 B4 B4 D3 B2 D1 D1 B2 D3 B4 / 39  folds 1 expected 12");
        bench.undo();
        bench.seal(0);
        bench.fold(0, 2);
        told(bench, 0, "D1 B2 D3 B4 B4 D3 B2 D1 / 39 sealed  folds 1 expected 8");
        bench.fold(0, 2);
        Check.same("at most 40", bench.temperature(0), 40);
        Check.same("one layer in 4", bench.fold(1, 4), 1);
        told(bench, 1, "D20 / 3  folds 1 expected 1");
        bench.dust(1);
        Check.same("one layer on flour", bench.fold(1, 4), 4);
        told(bench, 1, "D20 D20 D20 D20 / 5  folds 2 expected 4");
        Check.same("neighbors of one kind stay separate", bench.fold(2, 3), 4);
        told(bench, 2, "D1 D4 D2 D2 / 3  folds 1 expected 4");
    }

    private static void foldingRefused() {
        PastryBench bench = Check.benchOf("bench 1 9 50;sheet 1 dough 400 butter 400 dough 400 butter 134;sheet 1 dough 1;");
        Check.badState(bench, "1334 three times", () -> bench.fold(0, 3));
        Check.badState(bench, "1334 four times", () -> bench.fold(0, 4));
        Check.same("1334 twice", bench.fold(0, 2), 7);
        bench.cool(1);
        Check.badState(bench, "in the refrigerator", () -> bench.fold(1, 2));
        bench.takeOut(1);
        for (int i = 0; i < 3; i++) {
            bench.dust(1);
            bench.fold(1, 4);
        }
        Check.same("64 layers", bench.layerCount(1), 64);
        Check.badState(bench, "253 layers", () -> bench.fold(1, 4));
        Check.same("190 layers", bench.fold(1, 3), 190);
        Check.badState(bench, "379 layers", () -> bench.fold(1, 2));
    }

    private static void rolling() {
        PastryBench bench = Check.benchOf("bench 1 9 50;sheet 9 dough 9 butter 8 dough 1 butter 7 dough 3;sheet 12 dough 9 butter 8 dough 1 butter 4 butter 2;");
        bench.dust(0);
        Check.same("roll by 4", bench.roll(0, 4), 5);
        told(bench, 0, "D2 B2 D1 B1 D1 / 11 dusted  folds 0 expected 5");
        Check.same("nothing escaped", bench.escapedButter(), 0);
        Check.same("roll a warm one", bench.roll(1, 2), 3);
        told(bench, 1, "D4 B2 D1 / 14  folds 0 expected 3");
        Check.same("3 and 3 and 2 escaped", bench.escapedButter(), 8);
        Check.same("2 broken", bench.brokenLayers(), 2);
        bench.undo();
        bench.seal(1);
        Check.same("roll a sealed one", bench.roll(1, 2), 5);
        told(bench, 1, "D4 B4 D1 B2 B1 / 14  folds 0 expected 5");
        Check.same("nothing escapes from a sealed one", bench.escapedButter(), 0);
        bench.roll(1, 2);
        Check.same("sealed for one time only", bench.escapedButter(), 7);
        PastryBench hot = Check.benchOf("bench 1 9 50;sheet 39 dough 9 butter 80;");
        Check.same("roll by 3", hot.roll(0, 3), 2);
        told(hot, 0, "D3 B16 / 40  folds 0 expected 2");
    }

    private static void rolled(String layers, int factor, String due) {
        PastryBench bench = Check.benchOf("bench 1 20 50;sheet 5 " + layers + ";");
        int broken = bench.layersAtRisk(0, factor);
        int high = bench.heightAfterRoll(0, factor);
        int left = bench.roll(0, factor);
        Check.same(layers, Check.layers(bench, 0), due);
        Check.same(layers + ": layers", left, due.split(" ").length);
        Check.same(layers + ": expected", bench.expectedLayers(0), left);
        Check.same(layers + ": broken", bench.brokenLayers(), broken);
        Check.same(layers + ": height", bench.height(0), high);
    }

    private static void rollingJoins() {
        rolled("dough 8 butter 1 dough 10", 2, "D9");
        rolled("dough 8 butter 1 butter 1 dough 10", 2, "D9");
        rolled("dough 8 butter 1 dough 10 butter 1 dough 2", 2, "D10");
        rolled("butter 1 dough 8 dough 10", 2, "D4 D5");
        rolled("dough 8 dough 10 butter 1", 2, "D4 D5");
        rolled("dough 8 dough 10 butter 1 dough 6 dough 2", 2, "D4 D8 D1");
        rolled("butter 8 butter 1 butter 10", 2, "B9");
        rolled("butter 8 butter 1 dough 10", 2, "B4 D5");
        rolled("dough 8 butter 1 butter 10", 2, "D4 B5");
        rolled("dough 8 butter 9 butter 1 butter 10 dough 1", 2, "D4 B9 D1");
        rolled("butter 3 dough 8 butter 3 dough 10 butter 3", 4, "D4");
        rolled("dough 3 butter 3 dough 3", 4, "D2");
        rolled("dough 3 butter 4 dough 3", 4, "D1 B1 D1");
        rolled("butter 2 butter 1 butter 3 butter 1 butter 5", 2, "B4");
        PastryBench dusted = Check.benchOf("bench 1 20 50;sheet 5 dough 8 butter 1 dough 10;");
        dusted.dust(0);
        dusted.roll(0, 2);
        told(dusted, 0, "D9 / 7 dusted  folds 0 expected 1");
    }

    private static void rollingRefused() {
        PastryBench bench = Check.benchOf("bench 1 9 50;sheet 12 butter 4;sheet 12 butter 2 butter 3;sheet 9 butter 4;");
        Check.badState(bench, "nothing is left by 2", () -> bench.roll(0, 2));
        Check.badState(bench, "nothing is left of two", () -> bench.roll(1, 4));
        bench.seal(0);
        Check.same("sealed", bench.roll(0, 4), 1);
        told(bench, 0, "B1 / 14  folds 0 expected 1");
        Check.same("at the melting point", bench.roll(2, 4), 1);
        bench.cool(2);
        Check.badState(bench, "in the refrigerator", () -> bench.roll(2, 2));
        Check.same("nothing broke", bench.brokenLayers(), 0);
    }

    private static void dusting() {
        PastryBench bench = Check.benchOf("bench 1 9 2;sheet 12 butter 4;sheet 12 butter 2 butter 3;sheet 9 butter 4;");
        Check.same("dust", bench.dust(0), 1);
        told(bench, 0, "B4 / 12 dusted  folds 0 expected 1");
        Check.same("flour", bench.flour(), 1);
        Check.badState(bench, "dusted already", () -> bench.dust(0));
        bench.cool(2);
        Check.badState(bench, "in the refrigerator", () -> bench.dust(2));
        Check.same("the last portion", bench.dust(1), 0);
        bench.takeOut(2);
        Check.badState(bench, "no flour", () -> bench.dust(2));
    }

    private static void sealing() {
        PastryBench bench = Check.benchOf("bench 1 9 2;sheet 12 butter 4;sheet 12 butter 2;sheet 9 butter 4;");
        Check.same("seal one", bench.seal(2), 1);
        Check.same("seal two", bench.seal(0), 2);
        told(bench, 0, "B4 / 12 sealed  folds 0 expected 1");
        Check.badState(bench, "sealed already", () -> bench.seal(0));
        bench.cool(1);
        Check.badState(bench, "in the refrigerator", () -> bench.seal(1));
        bench.takeOut(1);
        bench.cool(0);
        Check.same("the cooling ones count too", bench.seal(1), 3);
        PastryBench gone = Check.benchOf("bench 1 9 2;sheet 12 butter 4;sheet 12 butter 2;");
        gone.seal(1);
        gone.stack(0, 1);
        Check.same("a sheet that was does not count", gone.seal(0), 1);
    }

    private static void cooling() {
        PastryBench bench = Check.benchOf("bench 1 9 2;sheet 12 dough 4;sheet 12 dough 2;sheet 9 dough 4;sheet 1 dough 1;");
        bench.seal(1);
        bench.dust(1);
        Check.answers("cool 1", () -> bench.cool(1), 1);
        told(bench, 1, "D2 / 12 dusted sealed cooling folds 0 expected 1");
        Check.badState(bench, "in the refrigerator", () -> bench.cool(1));
        Check.answers("cool 3", () -> bench.cool(3), 2);
        Check.answers("cool 0", () -> bench.cool(0), 3);
        Check.badState(bench, "no place", () -> bench.cool(2));
        Check.badState(bench, "no place and in it", () -> bench.cool(0));
        bench.takeOut(3);
        Check.same("a place again", bench.cool(2), 3);
        PastryBench gone = Check.benchOf("bench 1 9 2;sheet 12 dough 4;");
        gone.saveSnapshot();
        gone.cut(0);
        gone.cool(1);
        gone.restoreSnapshot();
        Check.same("a sheet that was takes no place", gone.cool(0), 1);
    }

    private static void takingOut() {
        PastryBench bench = Check.benchOf("bench 1 9 2;sheet 12 dough 4;sheet 33 dough 2;");
        Check.badState(bench, "not in the refrigerator", () -> bench.takeOut(0));
        bench.cool(1);
        Check.same("take out", bench.takeOut(1), 33);
        told(bench, 1, "D2 / 33  folds 0 expected 1");
        bench.cool(1);
        bench.passHours(2);
        Check.same("take a cold one out", bench.takeOut(1), 25);
        Check.badState(bench, "taken out already", () -> bench.takeOut(1));
    }

    private static void hours() {
        PastryBench bench = Check.benchOf("bench 20 19 2;sheet 18 dough 4;sheet 33 dough 2;sheet 22 dough 2;sheet 40 dough 2;sheet 3 dough 2;sheet 20 dough 2;");
        bench.cool(3);
        bench.cool(4);
        Check.same("19, 32, 21, 36, 3, 20", bench.passHours(1), 4);
        Check.same("the same bench", Check.toldBench(bench),
                "[D4 / 19  folds 0 expected 1] [D2 / 32  folds 0 expected 1] [D2 / 21  folds 0 expected 1] "
                        + "[D2 / 36 cooling folds 0 expected 1] [D2 / 3 cooling folds 0 expected 1] [D2 / 20  folds 0 expected 1] 20 19 2 1 0 0");
        Check.same("20, 8, 20, 4, 3, 20", bench.passHours(24), 4);
        Check.same("the room wins", bench.temperature(0) + bench.temperature(1) + bench.temperature(2), 60);
        Check.same("the refrigerator wins", bench.temperature(3), 4);
        Check.same("below 4 stays", bench.temperature(4), 3);
        Check.same("hours", bench.hoursPassed(), 25);
        bench.takeOut(4);
        bench.passHours(2);
        Check.same("out of it", bench.temperature(4), 5);
        Check.same("no sheets", Check.benchOf("bench 20 19 2;").passHours(24), 0);
        PastryBench gone = Check.benchOf("bench 30 19 2;sheet 30 dough 4;sheet 30 dough 4;");
        gone.stack(0, 1);
        Check.same("a sheet that was does not count", gone.passHours(1), 1);
    }

    private static void hoursRefused() {
        PastryBench bench = new PastryBench();
        int[] wrong = {0, -1, 25, Integer.MIN_VALUE, Integer.MAX_VALUE};
        for (int hours : wrong) {
            Check.badArgument(bench, "hours " + hours, () -> bench.passHours(hours));
        }
        for (int i = 0; i < 416; i++) {
            bench.passHours(24);
        }
        Check.same("9984 hours", bench.hoursPassed(), 9984);
        Check.badState(bench, "10000 hours", () -> bench.passHours(16));
        Check.badArgument(bench, "a wrong number comes first", () -> bench.passHours(25));
        bench.passHours(15);
        Check.same("9999 hours", bench.hoursPassed(), 9999);
        Check.badState(bench, "one more", () -> bench.passHours(1));
    }

    private static void cutting() {
        PastryBench bench = Check.benchOf("bench 1 9 5;sheet 12 dough 4 butter 2;sheet 33 dough 2;");
        bench.fold(0, 2);
        bench.dust(0);
        bench.seal(0);
        bench.seal(1);
        Check.same("cut", bench.cut(0), 2);
        told(bench, 0, "D4 B4 D4 / 14 dusted  folds 1 expected 3");
        told(bench, 1, "D2 / 33 sealed  folds 0 expected 1");
        told(bench, 2, "D4 B4 D4 / 14 dusted  folds 1 expected 3");
        bench.fold(2, 2);
        told(bench, 0, "D4 B4 D4 / 14 dusted  folds 1 expected 3");
        bench.cool(1);
        Check.badState(bench, "in the refrigerator", () -> bench.cut(1));
        Check.same("cut the fourth", bench.cut(0), 3);
        Check.same("cut the fifth", bench.cut(3), 4);
        Check.same("cut the sixth", bench.cut(2), 5);
        told(bench, 5, Check.toldSheet(bench, 2));
        Check.badState(bench, "six sheets", () -> bench.cut(0));
        Check.same("flour is not used", bench.flour(), 4);
    }

    private static PastryBench three() {
        return Check.benchOf("bench 1 9 5;sheet 12 dough 4 butter 2;sheet 33 butter 5 dough 6;sheet 3 dough 7;");
    }

    private static void stacking() {
        PastryBench bench = three();
        bench.seal(0);
        bench.seal(1);
        Check.same("joined butter", bench.stack(0, 1), 3);
        told(bench, 0, "D4 B7 D6 / 33  folds 0 expected 3");
        told(bench, 1, "D7 / 3  folds 0 expected 1");
        Check.same("two sheets", bench.sheetCount(), 2);
        bench.fold(1, 2);
        Check.same("joined dough, onto the last one", bench.stack(1, 0), 3);
        told(bench, 0, "D18 B7 D6 / 33  folds 1 expected 3");
        Check.same("one sheet", bench.sheetCount(), 1);

        PastryBench kinds = three();
        Check.same("butter under dough", kinds.stack(0, 2), 3);
        told(kinds, 0, "D4 B2 D7 / 12  folds 0 expected 3");
        told(kinds, 1, "B5 D6 / 33  folds 0 expected 2");

        PastryBench flour = three();
        flour.dust(0);
        Check.same("on flour", flour.stack(0, 1), 4);
        told(flour, 0, "D4 B2 B5 D6 / 33  folds 0 expected 4");
        flour.dust(1);
        flour.fold(0, 2);
        Check.same("the dusted one on top", flour.stack(0, 1), 7);
        told(flour, 0, "D4 B2 B5 D12 B5 B2 D11 / 35 dusted  folds 1 expected 7");

        PastryBench folded = three();
        folded.fold(1, 2);
        folded.fold(1, 2);
        folded.fold(0, 2);
        Check.same("the greater number of folds is below", folded.stack(1, 0), 8);
        told(folded, 0, "B5 D12 B10 D12 B5 D4 B4 D4 / 37  folds 2 expected 8");
        folded.stack(1, 0);
        told(folded, 0, "D7 B5 D12 B10 D12 B5 D4 B4 D4 / 37  folds 2 expected 9");
        indexesAfterStacking();
    }

    private static void indexesAfterStacking() {
        String text = "bench 1 9 5;sheet 1 dough 1;sheet 2 butter 2;sheet 3 dough 3;sheet 4 butter 4;";
        PastryBench bench = Check.benchOf(text);
        bench.stack(3, 1);
        Check.same("the upper one below the lower one", rows(bench), "D1 | D3 | B6");
        bench = Check.benchOf(text);
        bench.stack(0, 3);
        Check.same("the last one goes", rows(bench), "D1 B4 | B2 | D3");
        bench = Check.benchOf(text);
        bench.stack(1, 0);
        Check.same("the first one goes", rows(bench), "B2 D1 | D3 | B4");
        bench.stack(2, 1);
        Check.same("again", rows(bench), "B2 D1 | B4 D3");
        bench.cut(0);
        bench.addButter(0, 9);
        Check.same("the freed place is used again", rows(bench), "B2 D1 B9 | B4 D3 | B2 D1");
        for (int i = 0; i < 4; i++) {
            bench.undo();
        }
        Check.same("all undone", rows(bench), "D1 | B2 | D3 | B4");
        bench.cut(3);
        bench.cut(0);
        Check.same("six sheets", rows(bench), "D1 | B2 | D3 | B4 | B4 | D1");
        bench.stack(5, 4);
        Check.same("two of six", rows(bench), "D1 | B2 | D3 | B4 | D1 B4");
        bench.cut(4);
        bench.stack(0, 5);
        Check.same("the last of six goes", rows(bench), "D2 B4 | B2 | D3 | B4 | D1 B4");
    }

    private static String rows(PastryBench bench) {
        StringBuilder rows = new StringBuilder();
        for (int i = 0; i < bench.sheetCount(); i++) {
            rows.append(i == 0 ? "" : " | ").append(Check.layers(bench, i));
        }
        return rows.toString();
    }

    private static void stackingRefused() {
        PastryBench bench = three();
        int[] wrong = {-1, 3, 6, Integer.MIN_VALUE, Integer.MAX_VALUE};
        for (int index : wrong) {
            Check.noSheet(bench, "lower " + index, () -> bench.stack(index, 0));
            Check.noSheet(bench, "upper " + index, () -> bench.stack(0, index));
            Check.noSheet(bench, "both " + index, () -> bench.stack(index, index));
        }
        Check.badArgument(bench, "equal", () -> bench.stack(1, 1));
        bench.cool(1);
        Check.badArgument(bench, "equal in the refrigerator", () -> bench.stack(1, 1));
        Check.badState(bench, "the upper one in the refrigerator", () -> bench.stack(0, 1));
        Check.badState(bench, "the lower one in the refrigerator", () -> bench.stack(1, 0));
        tooHighToStack();
        tooManyToStack();
    }

    private static void tooHighToStack() {
        PastryBench bench = Check.benchOf("bench 1 9 5;sheet 12 dough 400 butter 400 dough 200;sheet 33 butter 1;");
        bench.fold(0, 4);
        Check.same("4000 high", bench.height(0), 4000);
        Check.badState(bench, "4001 high", () -> bench.stack(0, 1));
        Check.badState(bench, "4001 high the other way", () -> bench.stack(1, 0));
        PastryBench fits = Check.benchOf("bench 1 9 5;sheet 1 dough 400 butter 400 dough 199;sheet 1 dough 4;");
        fits.fold(0, 4);
        Check.same("4000 high together", fits.stack(0, 1), 9);
        Check.same("their height", fits.height(0), 4000);
    }

    /** A sheet of 159 layers with butter on top and no flour, and one of 42 layers that starts as told. */
    private static PastryBench of159And42(String bottom) {
        PastryBench bench = Check.benchOf(
                "bench 1 9 50;sheet 1 butter 1 dough 1 dough 1 dough 1 butter 1;sheet 1 " + bottom + " 1;");
        bench.dust(0);
        bench.fold(0, 4);
        bench.dust(0);
        bench.fold(0, 4);
        bench.cut(0);
        bench.stack(0, 2);
        Check.same("159 layers", bench.layerCount(0), 159);
        bench.dust(1);
        for (int i = 0; i < 41; i++) {
            bench.addButter(1, 1);
        }
        Check.same("42 layers", bench.layerCount(1), 42);
        return bench;
    }

    private static void tooManyToStack() {
        PastryBench joined = of159And42("butter");
        Check.same("200 layers when joined", joined.stack(0, 1), 200);
        Check.same("200 are expected", joined.expectedLayers(0), 200);
        joined.undo();
        joined.dust(0);
        Check.badState(joined, "201 layers on flour", () -> joined.stack(0, 1));
        PastryBench other = of159And42("dough");
        Check.badState(other, "201 layers of other kinds", () -> other.stack(0, 1));
        joined.undo();
        joined.stack(0, 1);
        joined.cut(0);
        Check.badState(joined, "399 layers when joined", () -> joined.stack(0, 1));
        PastryBench many = of159And42("butter");
        many.addButter(1, 1);
        Check.badState(many, "201 layers when joined", () -> many.stack(0, 1));
        one200();
    }

    /** A single layer is put on 200, and 200 on a single one: only the layers when joined count. */
    private static void one200() {
        PastryBench bench = Check.benchOf("bench 1 9 50;sheet 1 butter 1;sheet 1 butter 2;sheet 1 dough 3;");
        bench.dust(0);
        for (int i = 0; i < 24; i++) {
            bench.addButter(0, 1);
        }
        bench.fold(0, 2);
        bench.dust(0);
        Check.same("200 layers", bench.fold(0, 4), 200);
        Check.badState(bench, "dough on 200 layers", () -> bench.stack(0, 2));
        Check.badState(bench, "dough under 200 layers", () -> bench.stack(2, 0));
        Check.same("butter on 200 layers", bench.stack(0, 1), 200);
        Check.same("joined at the top", bench.thickness(0, 199), 3);
        bench.undo();
        Check.same("butter under 200 layers", bench.stack(1, 0), 200);
        Check.same("joined at the bottom", bench.thickness(0, 0), 3);
    }

    private static void addingButter() {
        PastryBench bench = Check.benchOf("bench 1 9 5;sheet 12 dough 4;sheet 33 butter 2;sheet 1 dough 400 dough 400 dough 200;");
        bench.seal(0);
        Check.same("on dough", bench.addButter(0, 1), 2);
        told(bench, 0, "D4 B1 / 12  folds 0 expected 2");
        bench.seal(0);
        Check.same("on butter", bench.addButter(0, 400), 2);
        told(bench, 0, "D4 B401 / 12  folds 0 expected 2");
        bench.dust(1);
        Check.same("on flour", bench.addButter(1, 7), 2);
        told(bench, 1, "B2 B7 / 33 dusted  folds 0 expected 2");
        Check.same("still on flour", bench.addButter(1, 7), 3);
        bench.cool(1);
        Check.badState(bench, "in the refrigerator", () -> bench.addButter(1, 7));
        bench.fold(2, 3);
        bench.addButter(2, 400);
        bench.addButter(2, 400);
        bench.addButter(2, 199);
        Check.badState(bench, "4001 high", () -> bench.addButter(2, 2));
        bench.addButter(2, 1);
        Check.same("4000 high", bench.height(2), 4000);
        Check.badState(bench, "one more", () -> bench.addButter(2, 1));
        addingButterTo200();
    }

    private static void addingButterTo200() {
        PastryBench bench = Check.benchOf("bench 1 9 50;sheet 1 butter 1;");
        bench.dust(0);
        for (int i = 0; i < 24; i++) {
            bench.addButter(0, 1);
        }
        bench.fold(0, 2);
        bench.dust(0);
        Check.same("200 layers without flour", bench.fold(0, 4), 200);
        Check.badState(bench, "200 layers, though it would be joined", () -> bench.addButter(0, 1));
        bench.dust(0);
        Check.badState(bench, "200 layers on flour", () -> bench.addButter(0, 1));
        bench.undo();
        bench.undo();
        bench.undo();
        Check.same("197 layers", bench.fold(0, 4), 197);
        bench.dust(0);
        Check.answers("up to 200", () -> bench.addButter(0, 1), 198, 199, 200);
        Check.badState(bench, "no more", () -> bench.addButter(0, 1));
    }

    private static void buyingFlour() {
        PastryBench bench = Check.benchOf("bench 1 9 49;");
        Check.same("one portion", bench.buyFlour(1), 50);
        for (int i = 0; i < 18; i++) {
            bench.buyFlour(50);
        }
        Check.same("flour", bench.flour(), 950);
        Check.badState(bench, "1000 portions", () -> bench.buyFlour(50));
        Check.same("999 portions", bench.buyFlour(49), 999);
        Check.badState(bench, "one more", () -> bench.buyFlour(1));
        int[] wrong = {0, -1, 51, Integer.MIN_VALUE, Integer.MAX_VALUE};
        for (int portions : wrong) {
            Check.badArgument(bench, "portions " + portions, () -> bench.buyFlour(portions));
        }
    }

    private static void noSuchSheet() {
        PastryBench bench = new PastryBench();
        Check.noSuchSheets(bench, "fold", i -> bench.fold(i, 9));
        Check.noSuchSheets(bench, "roll", i -> bench.roll(i, 9));
        Check.noSuchSheets(bench, "dust", bench::dust);
        Check.noSuchSheets(bench, "seal", bench::seal);
        Check.noSuchSheets(bench, "cool", bench::cool);
        Check.noSuchSheets(bench, "takeOut", bench::takeOut);
        Check.noSuchSheets(bench, "cut", bench::cut);
        Check.noSuchSheets(bench, "addButter", i -> bench.addButter(i, 0));
    }

    private static void wrongArguments() {
        PastryBench bench = new PastryBench();
        bench.cool(1);
        int[] wrong = {1, 5, 0, -2, Integer.MIN_VALUE, Integer.MAX_VALUE};
        for (int factor : wrong) {
            Check.badArgument(bench, "fold in " + factor, () -> bench.fold(0, factor));
            Check.badArgument(bench, "roll by " + factor, () -> bench.roll(0, factor));
            Check.badArgument(bench, "fold the cooling one in " + factor, () -> bench.fold(1, factor));
            Check.badArgument(bench, "roll the cooling one by " + factor, () -> bench.roll(1, factor));
        }
        int[] thicknesses = {0, -1, 401, Integer.MIN_VALUE, Integer.MAX_VALUE};
        for (int thickness : thicknesses) {
            Check.badArgument(bench, "butter " + thickness, () -> bench.addButter(0, thickness));
            Check.badArgument(bench, "butter on the cooling one " + thickness, () -> bench.addButter(1, thickness));
        }
    }
}
