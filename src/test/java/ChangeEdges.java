/** The edges of the changes: promises 41 to 51, and what the terms say of changes and exceptions. */
final class ChangeEdges {
    private ChangeEdges() {
    }

    static void check() {
        fold();
        roll();
        dust();
        seal();
        cool();
        takeOut();
        passHours();
        cut();
        cutRefused();
        stack();
        stackKeeps();
        stackArguments();
        stackRefused();
        addButter();
        addButterRefused();
        buyFlour();
        refusalsChangeNothing();
        firstException();
    }

    private static PastryBench oneSheet(String sheet) {
        return Check.benchOf("bench 20 18 50;sheet " + sheet + ";");
    }

    private static void told(PastryBench bench, int sheet, String due) {
        Check.same("sheet " + sheet, Check.toldSheet(bench, sheet), due);
    }

    private static void fold() {
        Sentences.says(41, "Folds a sheet.");
        PastryBench bench = new PastryBench();
        bench.fold(0, 3);
        told(bench, 0, "D60 B40 D120 B40 D120 B40 D60 / 12  folds 1 expected 7");
        told(bench, 1, "D30 B9 D25 B3 D30 / 20  folds 0 expected 5");
        Sentences.says(41, "Returns the number of layers afterwards.");
        Check.same("one", oneSheet("1 dough 1").fold(0, 4), 1);
        Check.same("200", Edge.onFlour(50).fold(0, 4), 200);
        Edge.sheetIndex(41, (any, sheet) -> Check.same("layers", any.fold(sheet, 2), 5));
        Edge.range(41, "- `parts`: 2, 3 or 4", "Throws `IllegalArgumentException` if parts is out of range", 2, 4,
                (any, parts) -> any.fold(0, parts));
        Sentences.says(41, "Throws `IllegalStateException` if foldObstacle(sheet, parts) is not 0");
        PastryBench cooling = oneSheet("1 dough 1");
        cooling.cool(0);
        Check.badState(cooling, "in the refrigerator", () -> cooling.fold(0, 2));
        cooling.takeOut(0);
        Check.same("taken out", cooling.fold(0, 2), 1);
        for (int parts = 2; parts <= 4; parts++) {
            int tried = parts;
            PastryBench full = Edge.onFlour(200 / parts + 1);
            Check.badState(full, "too many layers", () -> full.fold(0, tried));
            PastryBench high = Edge.high(4000 / parts + 1);
            Check.badState(high, "too high", () -> high.fold(0, tried));
            Check.same("the most layers", Edge.onFlour(200 / parts).fold(0, tried), 200 / parts * parts);
            PastryBench highest = Edge.high(4000 / parts);
            highest.fold(0, tried);
            Check.same("the highest", highest.height(0), 4000 / parts * parts);
        }
        PastryBench flour = Edge.withTop(100, "butter");
        flour.dust(0);
        Check.same("200 on flour", flour.fold(0, 2), 200);
        PastryBench joined = Edge.withTop(67, "dough");
        joined.dust(0);
        Check.badState(joined, "201 on flour", () -> joined.fold(0, 3));
        joined.undo();
        Check.same("199 without", joined.fold(0, 3), 199);
    }

    private static void roll() {
        Sentences.says(42, "Rolls a sheet.");
        PastryBench bench = new PastryBench();
        bench.roll(1, 2);
        told(bench, 1, "D15 B3 D27 / 22  folds 0 expected 3");
        told(bench, 0, "D60 B40 D60 / 10  folds 0 expected 3");
        Sentences.says(42, "Returns the number of layers afterwards.");
        Check.same("one", oneSheet("1 dough 1").roll(0, 4), 1);
        Check.same("two become one", oneSheet("1 dough 1 butter 1").roll(0, 4), 1);
        Check.same("200", ofDough200().roll(0, 4), 200);
        Edge.sheetIndex(42, (any, sheet) -> Check.same("layers", any.roll(sheet, 2), 3));
        Edge.range(42, "- `factor`: 2, 3 or 4", "Throws `IllegalArgumentException` if factor is out of range", 2, 4,
                (any, factor) -> any.roll(0, factor));
        Sentences.says(42, "Throws `IllegalStateException` if the sheet is in the refrigerator, or no layer would be left");
        PastryBench cooling = oneSheet("1 dough 9");
        cooling.cool(0);
        Check.badState(cooling, "in the refrigerator", () -> cooling.roll(0, 2));
        cooling.takeOut(0);
        Check.same("taken out", cooling.roll(0, 2), 1);
        for (int factor = 2; factor <= 4; factor++) {
            int tried = factor;
            PastryBench thin = oneSheet("18 butter " + (factor - 1));
            Check.badState(thin, "nothing left", () -> thin.roll(0, tried));
            Check.same("just left", oneSheet("18 butter " + factor).roll(0, tried), 1);
            PastryBench warm = oneSheet("21 butter " + (factor + 2) + " butter 1");
            Check.badState(warm, "nothing left of two", () -> warm.roll(0, tried));
            Check.same("one left of two", oneSheet("21 butter " + (factor + 3) + " butter 1").roll(0, tried), 1);
            warm.seal(0);
            Check.same("left when sealed", warm.roll(0, tried), 1);
        }
        PastryBench escaped = oneSheet("40 butter 22");
        Check.badState(escaped, "all of it would escape", () -> escaped.roll(0, 2));
        Check.same("nothing escaped", escaped.escapedButter() + escaped.brokenLayers(), 0);
        Check.same("dough is always left", oneSheet("40 butter 1 dough 1 butter 1").roll(0, 4), 1);
    }

    /** 200 layers of dough, each as thin as can be: 160 of one sheet and 40 of the other. */
    private static PastryBench ofDough200() {
        String sheet = "sheet 1 dough 1 dough 1 dough 1 dough 1 dough 1;";
        PastryBench bench = Check.benchOf("bench 20 18 50;" + sheet + sheet);
        foldOnFlour(bench, 0, 2, 4, 4);
        foldOnFlour(bench, 1, 2, 4);
        bench.dust(0);
        Check.same("160 and 40 layers", bench.stack(0, 1), 200);
        return bench;
    }

    private static void foldOnFlour(PastryBench bench, int sheet, int... parts) {
        for (int in : parts) {
            bench.dust(sheet);
            bench.fold(sheet, in);
        }
    }

    private static void dust() {
        Sentences.says(43, "Dusts a sheet with one portion of flour.");
        PastryBench bench = Check.benchOf("bench 20 18 2;sheet 1 dough 1;sheet 1 dough 1;sheet 1 dough 1;");
        Sentences.says(43, "Returns the portions of flour that are left.");
        Check.same("one left", bench.dust(1) * 10 + bench.flour(), 11);
        Check.same("the second alone", bench.isDusted(0) + " " + bench.isDusted(1), "false true");
        Check.same("none left", bench.dust(0), 0);
        PastryBench most = Check.benchOf("bench 20 18 49;sheet 1 dough 1;");
        for (int i = 0; i < 19; i++) {
            most.buyFlour(50);
        }
        Check.same("998 left", most.dust(0), 998);
        Edge.sheetIndex(43, (any, sheet) -> Check.same("left", any.dust(sheet), 8));
        Sentences.says(43, "Throws `IllegalStateException` if the sheet is in the refrigerator or is dusted, or there is no flour");
        Check.badState(bench, "no flour", () -> bench.dust(2));
        bench.buyFlour(1);
        Check.same("the last portion", bench.dust(2), 0);
        bench.buyFlour(2);
        Check.badState(bench, "dusted", () -> bench.dust(2));
        bench.fold(2, 2);
        Check.same("not dusted any more", bench.dust(2), 1);
        PastryBench cooling = Edge.sheets(2);
        cooling.cool(0);
        Check.badState(cooling, "in the refrigerator", () -> cooling.dust(0));
        Check.same("the other one", cooling.dust(1), 8);
        cooling.takeOut(0);
        Check.same("taken out", cooling.dust(0), 7);
    }

    private static void seal() {
        Sentences.says(44, "Seals the edges of a sheet.");
        PastryBench bench = Edge.sheets(6);
        Sentences.says(44, "Returns the number of sheets whose edges are sealed afterwards.");
        for (int i = 0; i < 6; i++) {
            Check.same("sealed", bench.seal(5 - i), i + 1);
        }
        bench.roll(3, 2);
        Check.same("not counted after rolling", bench.seal(3), 6);
        Edge.sheetIndex(44, (any, sheet) -> Check.same("sealed", any.seal(sheet), 1));
        Sentences.says(44, "Throws `IllegalStateException` if the sheet is in the refrigerator, or its edges are sealed");
        Check.badState(bench, "sealed", () -> bench.seal(0));
        PastryBench cooling = Edge.sheets(2);
        cooling.cool(0);
        Check.badState(cooling, "in the refrigerator", () -> cooling.seal(0));
        Check.same("the other one", cooling.seal(1), 1);
        cooling.takeOut(0);
        Check.same("taken out", cooling.seal(0), 2);
        cooling.cool(0);
        Check.badState(cooling, "sealed in the refrigerator", () -> cooling.seal(0));
        cooling.addButter(1, 1);
        Check.same("sealed ones in the refrigerator count", cooling.seal(1), 2);
    }

    private static void cool() {
        Sentences.says(45, "Puts a sheet into the refrigerator, which has room for 3 sheets.");
        PastryBench bench = Edge.sheets(6);
        Sentences.says(45, "Returns the number of sheets in the refrigerator afterwards.");
        Check.same("one", bench.cool(5), 1);
        Check.same("two", bench.cool(0), 2);
        Check.same("three", bench.cool(3), 3);
        Sentences.says(45, "Throws `IllegalStateException` if the sheet is in the refrigerator, or 3 sheets are");
        Check.badState(bench, "a fourth", () -> bench.cool(1));
        Check.badState(bench, "one of the three", () -> bench.cool(5));
        bench.takeOut(0);
        Check.badState(bench, "one of the two", () -> bench.cool(5));
        Check.same("a place is free", bench.cool(1), 3);
        bench.undo();
        Check.same("a place is free again", bench.cool(2), 3);
        PastryBench one = Edge.sheets(1);
        one.cool(0);
        Check.badState(one, "the only one", () -> one.cool(0));
        Edge.sheetIndex(45, (any, sheet) -> Check.same("cooling", any.cool(sheet), 1));
    }

    private static void takeOut() {
        Sentences.says(46, "Takes a sheet out of the refrigerator.");
        PastryBench bench = Check.benchOf("bench 40 18 5;sheet 0 dough 1;sheet 40 dough 1;");
        bench.cool(0);
        bench.cool(1);
        Sentences.says(46, "Returns its temperature.");
        Check.same("least", bench.takeOut(0), 0);
        Check.same("the other one stays", bench.isCooling(0) + " " + bench.isCooling(1), "false true");
        Check.same("most", bench.takeOut(1), 40);
        bench.cool(1);
        bench.passHours(24);
        Check.same("coldest", bench.takeOut(1), 4);
        Sentences.says(46, "Throws `IllegalStateException` if the sheet is not in the refrigerator");
        Check.badState(bench, "taken out", () -> bench.takeOut(1));
        PastryBench never = Edge.sheets(2);
        never.cool(0);
        Check.badState(never, "never in it", () -> never.takeOut(1));
        Edge.sheetIndex(46, 6, PastryBench::cool, (any, sheet) -> Check.same("temperature", any.takeOut(sheet), 10 + sheet));
    }

    private static void passHours() {
        Sentences.says(47, "Some hours pass.");
        PastryBench bench = Check.benchOf("bench 20 18 5;sheet 17 dough 1;sheet 18 dough 1;sheet 19 dough 1;sheet 19 dough 1;sheet 40 dough 1;sheet 30 dough 1;");
        bench.cool(3);
        bench.cool(5);
        Sentences.says(47, "Returns the number of sheets whose temperature is above the melting point afterwards.");
        Check.same("18, 19, 20, 15, 39, 26", bench.passHours(1), 4);
        Check.same("20, 20, 20, 7, 37, 18", bench.passHours(2), 4);
        Check.same("20, 20, 20, 4, 20, 4", bench.passHours(24), 4);
        Check.same("none", Check.benchOf("bench 18 18 5;sheet 18 dough 1;sheet 0 dough 1;").passHours(24), 0);
        Check.same("all", Check.benchOf("bench 19 18 5;sheet 18 dough 1;sheet 19 dough 1;").passHours(1), 2);
        Check.same("no sheets", Edge.sheets(0).passHours(1), 0);
        Edge.range(47, "- `hours`: 1 to 24", "Throws `IllegalArgumentException` if hours is out of range", 1, 24,
                (any, hours) -> {
                    any.passHours(hours);
                    Check.same("hours", any.hoursPassed(), hours);
                });
        Sentences.says(47, "Throws `IllegalStateException` if more than 9999 hours would have passed");
        PastryBench old = Edge.after(9975);
        Check.accepts("24 more", () -> old.passHours(24));
        Check.badState(old, "one more than 9999", () -> old.passHours(1));
        Check.badState(old, "24 more than 9999", () -> old.passHours(24));
        PastryBench near = Edge.after(9976);
        Check.badState(near, "10000", () -> near.passHours(24));
        Check.accepts("9999", () -> near.passHours(23));
        near.undo();
        Check.accepts("9977", () -> near.passHours(1));
        Check.accepts("9999 again", () -> near.passHours(22));
    }

    private static void cut() {
        Sentences.says(48, "Cuts a sheet into two sheets with the same layers.");
        PastryBench bench = Edge.sheets(4);
        bench.fold(1, 2);
        bench.dust(1);
        bench.seal(1);
        bench.seal(2);
        Sentences.says(48, "The new sheet comes behind all others.");
        Sentences.says(48, "Returns the index of the new sheet.");
        Check.same("the fifth", bench.cut(1), 4);
        Sentences.says(48, "It has the same temperature and number of folds, and it is dusted if the old one is.");
        told(bench, 4, "D8 B8 D16 B8 D8 / 13 dusted  folds 1 expected 5");
        Sentences.says(48, "The edges of both are not sealed afterwards.");
        told(bench, 1, "D8 B8 D16 B8 D8 / 13 dusted  folds 1 expected 5");
        Check.same("the others' edges stay", bench.isSealed(2), true);
        Check.same("the sixth", bench.cut(0), 5);
        told(bench, 5, "D8 B8 D8 / 10  folds 0 expected 3");
        told(bench, 0, "D8 B8 D8 / 10  folds 0 expected 3");
        bench.roll(5, 2);
        told(bench, 0, "D8 B8 D8 / 10  folds 0 expected 3");
        Check.same("200 layers", Edge.onFlour(200).cut(0), 1);
    }

    private static void cutRefused() {
        Edge.sheetIndex(48, 5, (any, sheet) -> { }, PastryBench::cut);
        Sentences.says(48, "Throws `IllegalStateException` if the sheet is in the refrigerator, or there are 6 sheets");
        PastryBench one = Edge.sheets(1);
        for (int sheets = 1; sheets < 6; sheets++) {
            Check.same("the index", one.cut(sheets - 1), sheets);
        }
        for (int i = 0; i < 6; i++) {
            int sheet = i;
            Check.badState(one, "six sheets", () -> one.cut(sheet));
        }
        one.stack(0, 1);
        Check.same("five sheets", one.cut(4), 5);
        PastryBench cooling = Edge.sheets(2);
        cooling.cool(0);
        Check.badState(cooling, "in the refrigerator", () -> cooling.cut(0));
        Check.same("the other one", cooling.cut(1), 2);
        cooling.takeOut(0);
        Check.same("taken out", cooling.cut(0), 3);
    }

    private static PastryBench three() {
        return Check.benchOf("bench 20 18 9;sheet 12 dough 4 butter 2;sheet 33 butter 5 dough 6;sheet 3 dough 7;");
    }

    private static void stack() {
        Sentences.says(49, "Puts a sheet on another one.");
        PastryBench bench = three();
        bench.stack(1, 0);
        Check.same("joined dough", Edge.rows(bench), "B5 D10 B2 | D7");
        Sentences.says(49, "They become one sheet in the place of the lower one; the upper one disappears.");
        PastryBench behind = three();
        behind.stack(0, 2);
        Check.same("the upper one behind", Edge.rows(behind), "D4 B2 D7 | B5 D6");
        PastryBench ahead = three();
        ahead.stack(2, 0);
        Check.same("the upper one ahead", Edge.rows(ahead), "B5 D6 | D11 B2");
        ahead.stack(1, 0);
        Check.same("the last two", Edge.rows(ahead), "D11 B7 D6");
        Check.noSheet(ahead, "one is left", () -> ahead.stack(0, 1));
        Sentences.says(49, "Where they meet, the layers stay separate if the lower sheet is dusted; otherwise they are joined.");
        PastryBench lower = three();
        lower.dust(0);
        Check.same("the lower one", lower.stack(0, 1), 4);
        Check.same("the lower one", Edge.rows(lower), "D4 B2 B5 D6 | D7");
        PastryBench upper = three();
        upper.dust(1);
        Check.same("the upper one alone", upper.stack(0, 1), 3);
        Check.same("the upper one alone", Edge.rows(upper), "D4 B7 D6 | D7");
        Sentences.says(49, "The sheet is dusted afterwards if the upper one was.");
        Check.same("the upper one was", upper.isDusted(0), true);
        Check.same("the lower one was", lower.isDusted(0), false);
        PastryBench both = three();
        both.dust(0);
        both.dust(1);
        both.stack(0, 1);
        Check.same("both were", both.isDusted(0), true);
        Check.same("none was", bench.isDusted(0), false);
    }

    private static void stackKeeps() {
        Sentences.says(49, "Its edges are not sealed.");
        PastryBench bench = three();
        bench.seal(0);
        bench.seal(1);
        bench.seal(2);
        bench.stack(0, 1);
        Check.same("of both, not of the other", bench.isSealed(0) + " " + bench.isSealed(1), "false true");
        Sentences.says(49, "Its temperature is the higher one of both, and its number of folds is the greater one of both.");
        Check.same("the upper one's", bench.temperature(0), 33);
        bench.fold(1, 2);
        bench.stack(0, 1);
        told(bench, 0, "D4 B7 D20 / 33  folds 1 expected 3");
        PastryBench lower = three();
        lower.fold(1, 2);
        lower.fold(1, 2);
        lower.fold(2, 2);
        lower.stack(1, 2);
        told(lower, 1, "B5 D12 B10 D12 B5 D14 / 37  folds 2 expected 6");
        Sentences.says(49, "Returns the number of layers of the sheet.");
        Check.same("one", Check.benchOf("bench 1 9 5;sheet 1 dough 1;sheet 1 dough 1;").stack(1, 0), 1);
        Check.same("two", Check.benchOf("bench 1 9 5;sheet 1 dough 1;sheet 1 butter 1;").stack(1, 0), 2);
        Check.same("200", Edge.onFlour(199, "sheet 1 dough 1;").stack(0, 1), 200);
    }

    private static void stackArguments() {
        Sentences.says(49, "- `upper`: index of another sheet");
        Check.accepts("the first two", () -> three().stack(0, 1));
        Check.accepts("the last two", () -> three().stack(2, 1));
        Sentences.says(49, Edge.NO_SHEET);
        int[] counts = {0, 1, 2, 6};
        for (int count : counts) {
            PastryBench bench = Edge.sheets(count);
            int[] wrong = {-1, count, 6, Integer.MIN_VALUE, Integer.MAX_VALUE};
            for (int index : wrong) {
                Check.noSheet(bench, "lower " + index, () -> bench.stack(index, 0));
                Check.noSheet(bench, "upper " + index, () -> bench.stack(0, index));
                Check.noSheet(bench, "both " + index, () -> bench.stack(index, index));
            }
        }
        Check.accepts("0 and 5", () -> Edge.sheets(6).stack(0, 5));
        Check.accepts("5 and 0", () -> Edge.sheets(6).stack(5, 0));
        Sentences.says(49, "Throws `IllegalArgumentException` if both indexes are equal");
        PastryBench bench = Edge.sheets(6);
        for (int i = 0; i < 6; i++) {
            int sheet = i;
            Check.badArgument(bench, "both " + i, () -> bench.stack(sheet, sheet));
        }
        PastryBench one = Edge.sheets(1);
        Check.badArgument(one, "the only one", () -> one.stack(0, 0));
    }

    private static void stackRefused() {
        Sentences.says(49, "Throws `IllegalStateException` if one of the sheets is in the refrigerator, the sheet would have more than 200 "
                + "layers, or its height would exceed 4000");
        PastryBench cooling = three();
        cooling.cool(1);
        Check.badState(cooling, "the upper one", () -> cooling.stack(0, 1));
        Check.badState(cooling, "the lower one", () -> cooling.stack(1, 0));
        Check.same("the others", cooling.stack(0, 2), 3);
        cooling.cool(0);
        Check.badState(cooling, "both", () -> cooling.stack(0, 1));
        cooling.takeOut(0);
        cooling.takeOut(1);
        Check.same("both taken out", cooling.stack(0, 1), 5);
        layersOfBoth(199, "dough", "butter 1", 200);
        layersOfBoth(199, "dough", "butter 1 dough 1", -1);
        layersOfBoth(199, "dough", "dough 1 butter 1", 200);
        layersOfBoth(199, "dough", "dough 1 butter 1 dough 1", -1);
        layersOfBoth(200, "butter", "butter 1", 200);
        layersOfBoth(200, "butter", "dough 1", -1);
        layersOfBoth(200, "butter", "butter 1 butter 1", -1);
        PastryBench flour = Edge.onFlour(200, "sheet 1 butter 1;");
        Check.badState(flour, "201 on flour", () -> flour.stack(0, 1));
        PastryBench fits = Edge.onFlour(199, "sheet 1 butter 1;");
        Check.same("200 on flour", fits.stack(0, 1), 200);
        heightOfBoth(399, 4000);
        heightOfBoth(400, 4000 + 1);
    }

    /** Puts the other layers on a sheet without flour that has as many and ends as told; -1 is a refusal. */
    private static void layersOfBoth(int layers, String top, String others, int due) {
        PastryBench bench = Edge.withTop(layers, top, "sheet 1 " + others + ";");
        if (due < 0) {
            Check.badState(bench, layers + " and " + others, () -> bench.stack(0, 1));
        } else {
            Check.same(layers + " and " + others, bench.stack(0, 1), due);
        }
    }

    private static void heightOfBoth(int other, int sum) {
        int[][] orders = {{0, 1}, {1, 0}};
        for (int[] order : orders) {
            PastryBench bench = Check.benchOf("bench 1 9 5;sheet 1" + " dough 400".repeat(9) + ";sheet 1 butter " + other + ";");
            bench.addButter(0, 1);
            Check.same("together", bench.height(0) + bench.height(1), sum);
            if (sum > 4000) {
                Check.badState(bench, "beyond 4000", () -> bench.stack(order[0], order[1]));
            } else {
                bench.stack(order[0], order[1]);
                Check.same("up to 4000", bench.height(0), sum);
            }
        }
    }

    private static void addButter() {
        Sentences.says(50, "Puts a new layer of butter on a sheet.");
        PastryBench bench = Check.benchOf("bench 1 9 5;sheet 12 dough 4;sheet 33 butter 2;sheet 3 butter 1 dough 1;");
        Check.same("on dough", bench.addButter(2, 7), 3);
        Check.same("on top", Edge.rows(bench), "D4 | B2 | B1 D1 B7");
        Sentences.says(50, "It meets the top layer of the sheet; they stay separate if the sheet is dusted, and otherwise they are joined if the "
                + "top layer is butter.");
        Check.same("joined", bench.addButter(1, 7), 1);
        bench.dust(0);
        bench.dust(1);
        Check.same("dough on flour", bench.addButter(0, 7), 2);
        Check.same("butter on flour", bench.addButter(1, 8), 2);
        Check.same("butter on flour again", bench.addButter(1, 9), 3);
        Check.same("layers", Edge.rows(bench), "D4 B7 | B9 B8 B9 | B1 D1 B7");
        Sentences.says(50, "Whether the sheet is dusted does not change.");
        Check.same("dusted", bench.isDusted(1) + " " + bench.isDusted(2), "true false");
        Sentences.says(50, "Its edges are not sealed afterwards.");
        bench.seal(0);
        bench.seal(1);
        bench.seal(2);
        bench.addButter(1, 1);
        bench.addButter(2, 1);
        Check.same("sealed", bench.isSealed(0) + " " + bench.isSealed(1) + " " + bench.isSealed(2), "true false false");
        Sentences.says(50, "Returns the number of layers afterwards.");
        Check.same("one", oneSheet("1 butter 1").addButter(0, 1), 1);
        Check.same("two", oneSheet("1 dough 1").addButter(0, 1), 2);
        Check.same("200", Edge.onFlour(199).addButter(0, 1), 200);
    }

    private static void addButterRefused() {
        Edge.sheetIndex(50, (any, sheet) -> Check.same("layers", any.addButter(sheet, 1), 4));
        Edge.range(50, "- `thickness`: 1 to 400", "Throws `IllegalArgumentException` if thickness is out of range", 1, 400,
                (any, thickness) -> {
                    any.addButter(0, thickness);
                    Check.same("thickness", any.thickness(0, 3), thickness);
                });
        Sentences.says(50, "Throws `IllegalStateException` if the sheet is in the refrigerator, it has 200 layers, or its height would exceed 4000");
        PastryBench cooling = Edge.sheets(2);
        cooling.cool(1);
        Check.badState(cooling, "in the refrigerator", () -> cooling.addButter(1, 1));
        Check.same("the other one", cooling.addButter(0, 1), 4);
        cooling.takeOut(1);
        Check.same("taken out", cooling.addButter(1, 1), 4);
        PastryBench flour = Edge.onFlour(200);
        Check.badState(flour, "200 layers on flour", () -> flour.addButter(0, 1));
        PastryBench joined = Edge.withTop(200, "butter");
        Check.badState(joined, "200 layers, though it would be joined", () -> joined.addButter(0, 1));
        PastryBench dough = Edge.withTop(200, "dough");
        Check.badState(dough, "200 layers with dough on top", () -> dough.addButter(0, 1));
        Check.same("199 layers, joined", Edge.withTop(199, "butter").addButter(0, 1), 199);
        Check.same("199 layers, separate", Edge.withTop(199, "dough").addButter(0, 1), 200);
        PastryBench high = Edge.high(3600);
        Check.accepts("4000 high", () -> high.addButter(0, 400));
        Check.badState(high, "4001 high", () -> high.addButter(0, 1));
        PastryBench higher = Edge.high(3600);
        higher.addButter(0, 1);
        Check.badState(higher, "4001 high at once", () -> higher.addButter(0, 400));
        Check.accepts("4000 high at once", () -> higher.addButter(0, 399));
    }

    private static void buyFlour() {
        Sentences.says(51, "Flour is bought.");
        PastryBench bench = Check.benchOf("bench 1 9 0;");
        Sentences.says(51, "Returns the portions of flour afterwards.");
        Check.same("one", bench.buyFlour(1) * 100 + bench.flour(), 101);
        Check.same("51", bench.buyFlour(50), 51);
        Edge.range(51, "- `portions`: 1 to 50", "Throws `IllegalArgumentException` if portions is out of range", 1, 50,
                (any, portions) -> Check.same("portions", any.buyFlour(portions), 9 + portions));
        Sentences.says(51, "Throws `IllegalStateException` if there would be more than 999 portions");
        for (int i = 0; i < 17; i++) {
            bench.buyFlour(50);
        }
        bench.buyFlour(48);
        Check.same("949", bench.flour(), 949);
        Check.same("999 at once", bench.buyFlour(50), 999);
        Check.badState(bench, "1000", () -> bench.buyFlour(1));
        Check.badState(bench, "1049", () -> bench.buyFlour(50));
        bench.undo();
        bench.buyFlour(1);
        Check.badState(bench, "1000 at once", () -> bench.buyFlour(50));
        Check.same("999", bench.buyFlour(49), 999);
    }

    /** Every method that throws, once more on a bench with all that could be lost; refuses() compares the whole of it. */
    private static void refusalsChangeNothing() {
        Sentences.says(Sentences.TERMS, "A method that throws an exception changes nothing.");
        PastryBench bench = Check.benchOf("bench 20 18 2;sheet 25 butter 2 butter 3;sheet 12 dough 400 dough 400 dough 400 dough 400;sheet 5 dough 7;");
        bench.seal(1);
        bench.dust(1);
        bench.cool(2);
        bench.writeSheet(1);
        Check.load(bench, "bench 99");
        Check.type(bench, "dust 0;");
        Check.badState(bench, "fold", () -> bench.fold(1, 4));
        Check.badState(bench, "roll", () -> bench.roll(0, 2));
        Check.badState(bench, "dust", () -> bench.dust(1));
        Check.badState(bench, "seal", () -> bench.seal(1));
        Check.badState(bench, "cool", () -> bench.cool(2));
        Check.badState(bench, "takeOut", () -> bench.takeOut(1));
        Check.badArgument(bench, "passHours", () -> bench.passHours(0));
        Check.badState(bench, "cut", () -> bench.cut(2));
        Check.badState(bench, "stack", () -> bench.stack(0, 2));
        Check.badState(bench, "addButter", () -> bench.addButter(2, 1));
        Check.badArgument(bench, "buyFlour", () -> bench.buyFlour(51));
        Check.badArgument(bench, "loadBench", () -> bench.loadBench(21));
        Check.badArgument(bench, "runScript", () -> bench.runScript(-1));
        Check.noSheet(bench, "writeSheet", () -> bench.writeSheet(3));
        Check.badState(bench, "restoreSnapshot", bench::restoreSnapshot);
        Check.same("the buffer is there", bench.runScript(20), 1);
    }

    private static void firstException() {
        Sentences.says(Sentences.TERMS, "If several exceptions apply, the one listed first in the documentation of the method is thrown.");
        PastryBench bench = Edge.after(9999);
        Check.script(bench, "cut 0;cut 0;cut 0;cut 0;dust 0;dust 1;dust 2;dust 3;dust 4;cool 0;cool 1;cool 2;");
        int[] wrong = {-1, 6};
        for (int sheet : wrong) {
            Check.noSheet(bench, "foldObstacle", () -> bench.foldObstacle(sheet, 1));
            Check.noSheet(bench, "layersAfterFold", () -> bench.layersAfterFold(sheet, 5));
            Check.noSheet(bench, "foldsPossible", () -> bench.foldsPossible(sheet, 1));
            Check.noSheet(bench, "layersAtRisk", () -> bench.layersAtRisk(sheet, 5));
            Check.noSheet(bench, "heightAfterRoll", () -> bench.heightAfterRoll(sheet, 1));
            Check.noSheet(bench, "temperatureAfter", () -> bench.temperatureAfter(sheet, 25));
            Check.noSheet(bench, "fold", () -> bench.fold(sheet, 5));
            Check.noSheet(bench, "roll", () -> bench.roll(sheet, 1));
            Check.noSheet(bench, "dust without flour", () -> bench.dust(sheet));
            Check.noSheet(bench, "seal", () -> bench.seal(sheet));
            Check.noSheet(bench, "cool, no place", () -> bench.cool(sheet));
            Check.noSheet(bench, "takeOut", () -> bench.takeOut(sheet));
            Check.noSheet(bench, "cut of six", () -> bench.cut(sheet));
            Check.noSheet(bench, "stack with a cooling one", () -> bench.stack(0, sheet));
            Check.noSheet(bench, "stack on a cooling one", () -> bench.stack(sheet, 0));
            Check.noSheet(bench, "stack, both equal", () -> bench.stack(sheet, sheet));
            Check.noSheet(bench, "addButter", () -> bench.addButter(sheet, 0));
        }
        Check.badArgument(bench, "fold in the refrigerator", () -> bench.fold(0, 1));
        Check.badArgument(bench, "roll in the refrigerator", () -> bench.roll(0, 5));
        Check.badArgument(bench, "stack in the refrigerator", () -> bench.stack(0, 0));
        Check.badArgument(bench, "addButter in the refrigerator", () -> bench.addButter(0, 401));
        Check.badArgument(bench, "hours beyond 9999", () -> bench.passHours(25));
        for (int i = 0; i < 19; i++) {
            bench.buyFlour(50);
        }
        Check.badArgument(bench, "portions beyond 999", () -> bench.buyFlour(51));
        PastryBench full = Edge.onFlour(200);
        Check.badArgument(full, "fold of 200 layers", () -> full.fold(0, 5));
        Check.badArgument(full, "addButter on 200 layers", () -> full.addButter(0, 401));
        PastryBench high = Edge.highest();
        Check.badArgument(high, "fold of the highest", () -> high.fold(0, 5));
        Check.badArgument(high, "addButter on the highest", () -> high.addButter(0, 401));
        Check.badArgument(high, "stack of the highest", () -> high.stack(0, 0));
        PastryBench thin = oneSheet("1 butter 1");
        Check.badArgument(thin, "roll that leaves nothing", () -> thin.roll(0, 5));
    }
}
