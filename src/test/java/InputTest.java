/** Promises 1 to 5: a new object, the input buffer, loading a bench, and parse errors of benches. */
public final class InputTest {
    private static final String SIX =
            "bench 1 5 0;sheet 0 dough 1;sheet 1 dough 1;sheet 2 dough 1;sheet 3 dough 1;sheet 4 dough 1;sheet 5 dough 1;";
    private static final String NINE =
            "bench 40 35 50;sheet 40 dough 1 dough 2 dough 3 butter 4 butter 5 butter 6 dough 7 dough 8 dough 400";

    public static void main(String[] args) {
        newObject();
        appending();
        loading();
        loadingWrongLengths();
        loadingReplaces();
        loadingAgain();
        failedLoadKeeps();
        tokens();
        ends();
        ranges();
        tooMany();
        smallestCode();
        errorsAreOfTheLatestCall();
        Check.finish("InputTest");
    }

    private static void newObject() {
        PastryBench bench = new PastryBench();
        Check.same("a new object", Check.told(bench),
                "[D60 B40 D60 / 10  folds 0 expected 3] [D30 B9 D25 B3 D30 / 20  folds 0 expected 5] "
                        + "22 18 5 0 0 0 undoable 0 error 0@-1 output ");
        Check.badArgument(bench, "the buffer is empty", () -> bench.loadBench(1));
        Check.badState(bench, "nothing can be undone", bench::undo);
        Check.badState(bench, "no snapshot", bench::restoreSnapshot);
        PastryBench other = new PastryBench();
        other.fold(0, 2);
        Check.same("objects are on their own", bench.layerCount(0), 3);
    }

    private static void appending() {
        PastryBench bench = new PastryBench();
        for (int i = 1; i <= 25; i++) {
            Check.same("append " + i, bench.appendText(0, 0, 0, 0, 0), 20 * i);
        }
        Check.same("append 26", bench.appendText(0, 0, 0, 0, 0), -1);
        Check.same("append 27", bench.appendText(-1, -1, -1, -1, -1), -1);
        Check.badArgument(bench, "501 bytes", () -> bench.loadBench(501));
        Check.same("500 bytes", bench.loadBench(500), -1);
        Check.error("zeros", bench, 1, 0);
        Check.same("append to the emptied buffer", bench.appendText(0, 0, 0, 0, 0), 20);

        PastryBench ordered = new PastryBench();
        Check.same("most significant first", ordered.appendText(0x62656e63, 0x68203120, 0x3520303b, 0x73686565, 0x74203264), 20);
        Check.same("the second append", ordered.appendText(0x6f756768, 0x20333b20, 0x20202020, 0x20202020, 0x20202020), 40);
        Check.same("load both", ordered.loadBench(40), 1);
        Check.same("the loaded sheet", Check.toldBench(ordered), "[D3 / 2  folds 0 expected 1] 1 5 0 0 0 0");

        PastryBench high = new PastryBench();
        high.appendText(0xFF000000, 0, 0, 0, 0);
        Check.same("bytes above 127 are bytes", high.loadBench(20), -1);
        Check.error("byte 255", high, 1, 0);
    }

    private static void loading() {
        Check.same("without sheets", Check.toldBench(Check.benchOf("bench 0 5 0;")), "0 5 0 0 0 0");
        Check.same("largest numbers", Check.toldBench(Check.benchOf(NINE + ";")),
                "[D1 D2 D3 B4 B5 B6 D7 D8 D400 / 40  folds 0 expected 9] 40 35 50 0 0 0");
        PastryBench six = new PastryBench();
        Check.same("six sheets", Check.load(six, SIX), 6);
        Check.same("their temperatures", six.temperature(5) * 10 + six.temperature(0), 50);
        PastryBench prefix = new PastryBench();
        Check.type(prefix, "bench 1 5 20;sheet");
        Check.same("only the first bytes count", prefix.loadBench(13), 0);
        Check.same("flour of the prefix", prefix.flour(), 20);
        PastryBench cutNumber = new PastryBench();
        Check.type(cutNumber, "bench 1 5 20;sheet 1 dough 123;");
        Check.same("a token ends with the text", cutNumber.loadBench(29), -1);
        Check.error("a token ends with the text", cutNumber, 1, 29);
    }

    private static void loadingWrongLengths() {
        PastryBench bench = new PastryBench();
        Check.type(bench, "bench 0 5 0;");
        Check.badArgument(bench, "negative", () -> bench.loadBench(-1));
        Check.badArgument(bench, "most negative", () -> bench.loadBench(Integer.MIN_VALUE));
        Check.badArgument(bench, "too long", () -> bench.loadBench(21));
        Check.badArgument(bench, "longest", () -> bench.loadBench(Integer.MAX_VALUE));
        Check.same("the buffer is not emptied", bench.loadBench(20), 0);
        Check.badArgument(bench, "the buffer is emptied", () -> bench.loadBench(1));
        Check.same("an empty text", bench.loadBench(0), -1);
        Check.error("an empty text", bench, 1, 0);
    }

    private static void loadingReplaces() {
        PastryBench bench = new PastryBench();
        bench.dust(0);
        bench.seal(0);
        bench.roll(1, 4);
        bench.cool(1);
        bench.cut(0);
        bench.passHours(3);
        bench.writeSheet(0);
        String written = Check.output(bench);
        bench.saveSnapshot();
        Check.same("load", Check.load(bench, "bench 0 5 0;sheet 0 butter 7;sheet 3 dough 8;"), 2);
        Check.same("a new bench", Check.told(bench),
                "[B7 / 0  folds 0 expected 1] [D8 / 3  folds 0 expected 1] 0 5 0 0 0 0 undoable 0 error 0@-1 output " + written);
        Check.badState(bench, "the snapshot is discarded", bench::restoreSnapshot);
        Check.badState(bench, "the history is cleared", bench::undo);
    }

    private static void loadingAgain() {
        PastryBench bench = new PastryBench();
        Check.same("six sheets", Check.load(bench, SIX), 6);
        Check.same("fewer sheets, more layers", Check.load(bench, "bench 1 5 0;sheet 7 dough 1 butter 2;sheet 8 butter 3;"), 2);
        Check.same("after a text that fails late", Check.load(bench, "bench 3 6 9;sheet 1 butter 9 butter 9 butter 9;x"), -1);
        Check.same("two sheets still", bench.sheetCount(), 2);
        Check.same("nothing of the texts before is left", Check.load(bench, "bench 2 5 0;sheet 4 dough 6;"), 1);
        Check.same("the third bench", Check.toldBench(bench), "[D6 / 4  folds 0 expected 1] 2 5 0 0 0 0");
        Check.same("as many sheets as fit", Check.load(bench, SIX), 6);
    }

    private static void failedLoadKeeps() {
        PastryBench bench = new PastryBench();
        bench.dust(0);
        bench.saveSnapshot();
        bench.seal(1);
        String before = Check.toldBench(bench);
        Check.same("a late error", Check.load(bench, "bench 0 5 0;sheet 0 butter 7;sheet 3 dough 8"), -1);
        Check.same("the bench stays", Check.toldBench(bench), before);
        Check.badArgument(bench, "the buffer is emptied", () -> bench.loadBench(1));
        Check.same("the history stays", bench.undoableCount(), 2);
        Check.same("the snapshot stays", bench.restoreSnapshot(), 2);
    }

    private static void fails(String text, int code, int offset) {
        PastryBench bench = new PastryBench();
        Check.same(text, Check.load(bench, text), -1);
        Check.error(text, bench, code, offset);
    }

    private static void tokens() {
        Check.same("no separators needed", Check.toldBench(Check.benchOf("bench22 18 5;sheet1dough2butter3;")),
                "[D2 B3 / 1  folds 0 expected 2] 22 18 5 0 0 0");
        Check.same("all separators", Check.toldBench(Check.benchOf("\n bench\n22\n \n18 5 ; sheet 1\ndough 2 ;\n")),
                "[D2 / 1  folds 0 expected 1] 22 18 5 0 0 0");
        Check.same("leading zeros", Check.toldBench(Check.benchOf("bench 00000000000000000000040 018 005;")), "40 18 5 0 0 0");
        fails("benches 1 5 0;", 1, 0);
        fails("benc 1 5 0;", 1, 0);
        fails("cench 1 5 0;", 1, 0);
        fails("benchz 1 5 0;", 1, 0);
        fails("bencha 1 5 0;", 1, 0);
        fails("bench 1 5 0;sheet 1 nough 1;", 1, 20);
        fails("bench 1 5 0;sheet 1 cutter 1;", 1, 20);
        fails("Bench 1 5 0;", 1, 0);
        fails("bencH 1 5 0;", 1, 0);
        fails("bench\t1 5 0;", 1, 5);
        fails("bench\r1 5 0;", 1, 5);
        fails("bench 1 5 0:", 1, 11);
        fails("bench -1 5 0;", 1, 6);
        fails("bench 1/5 0;", 1, 7);
        fails("bench `1 5 0;", 1, 6);
        fails("bench {1 5 0;", 1, 6);
        fails("bench 1 5 0;;", 1, 12);
        fails("bench 1 5 0;sheet 1 dough 1;bench", 1, 28);
        fails("bench 1 5 0;sheet 1 dough 1 dust 1;", 1, 28);
        fails("bench 1 5 0;sheet 1 1;", 1, 20);
        fails("bench 1 5 0;sheet 1;", 1, 19);
        fails("bench 1 5 0;sheet dough 1;", 1, 18);
        fails("bench 1 5 0;sheet 1 dough butter 1;", 1, 26);
        fails("bench 1 5 0;sheet 1 dough 1 1;", 1, 28);
        fails("bench 1 5 0 0;", 1, 12);
        fails("bench 1 5;", 1, 9);
        fails("bench 1 5 0;sheet 1 dough 1;\u00ff", 1, 28);
    }

    private static void ends() {
        String whole = "bench 1 5 0;sheet 1 dough 10;";
        for (int length = 0; length < whole.length(); length++) {
            PastryBench bench = new PastryBench();
            Check.type(bench, whole);
            boolean stands = length == 12;
            Check.same("the first " + length, bench.loadBench(length), stands ? 0 : -1);
            boolean midWord = length > 0 && length < 5 || length > 12 && length < 17 || length > 20 && length < 25;
            int start = length < 5 ? 0 : length < 17 ? 12 : 20;
            Check.error("the first " + length, bench, stands ? 0 : 1, stands ? -1 : midWord ? start : length);
        }
        fails("bench 1 5 0   \n ", 1, 16);
        fails("   ", 1, 3);
    }

    private static void ranges() {
        fails("bench 41 5 0;", 2, 6);
        fails("bench 99999999999999999999 5 0;", 2, 6);
        fails("bench 4294967296 5 0;", 2, 6);
        fails("bench 0 4 0;", 2, 8);
        fails("bench 0 36 0;", 2, 8);
        fails("bench 0 5 51;", 2, 10);
        fails("bench 0 5 0;sheet 41 dough 1;", 2, 18);
        fails("bench 0 5 0;sheet 0 dough 0;", 2, 26);
        fails("bench 0 5 0;sheet 0 dough 000;", 2, 26);
        fails("bench 0 5 0;sheet 0 butter 401;", 2, 27);
        fails("bench 0 5 0;sheet 0 butter 18446744073709551617;", 2, 27);
        Check.benchOf("bench 40 5 50;sheet 40 dough 1 butter 400;");
        Check.benchOf("bench 0 35 0;sheet 0 dough 400 butter 1;");
    }

    private static void tooMany() {
        fails(SIX + "sheet", 3, SIX.length());
        fails(SIX + " sheet 1 dough 1;", 3, SIX.length() + 1);
        fails(SIX + "sheets", 1, SIX.length());
        fails(SIX + "dough", 1, SIX.length());
        fails(SIX + "7", 1, SIX.length());
        fails(NINE + " dough 1;", 3, NINE.length() + 1);
        fails(NINE + "butter 900;", 3, NINE.length());
        fails(NINE + " sheet", 1, NINE.length() + 1);
        fails(NINE + " 1;", 1, NINE.length() + 1);
        fails(NINE, 1, NINE.length());
        String two = NINE + ";sheet 1 dough 1";
        Check.same("each sheet counts its own layers", Check.benchOf(two + ";").layerCount(1), 1);
    }

    private static void smallestCode() {
        fails("bench ; 99", 1, 6);
        fails("bench 1 5 0 99;", 1, 12);
        fails("99 1 5 0;", 1, 0);
        fails("bench 41 99 99;sheet", 2, 6);
    }

    private static void errorsAreOfTheLatestCall() {
        PastryBench bench = new PastryBench();
        Check.error("no call", bench, 0, -1);
        Check.load(bench, "bench 99");
        Check.error("load", bench, 2, 6);
        Check.badArgument(bench, "a call that throws", () -> bench.loadBench(3));
        Check.badArgument(bench, "a script that throws", () -> bench.runScript(-3));
        Check.error("a call that throws does not count", bench, 2, 6);
        bench.dust(0);
        bench.undo();
        Check.error("undo does not count", bench, 2, 6);
        Check.script(bench, "fold 0 9;");
        Check.error("script", bench, 2, 7);
        Check.script(bench, "fold 0 2;");
        Check.error("a good script", bench, 0, -1);
        Check.script(bench, "fold");
        Check.error("a bad script", bench, 1, 4);
        Check.load(bench, "bench 0 5 0;");
        Check.error("a good bench", bench, 0, -1);
    }
}
