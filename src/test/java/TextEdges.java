/** The edges of text input: the buffer, tokens, both grammars, error codes and offsets; promises 2 to 5 and 52. */
final class TextEdges {
    private static final String HEADER = "bench 1 5 0;";
    private static final String SHEET = "sheet 1 dough 1;";
    private static final String SIX = HEADER + SHEET.repeat(6);
    private static final String NINE = HEADER + "sheet 1" + " dough 1 butter 1 butter 1".repeat(3);
    private static final String TWENTY = "wait 1;".repeat(20);

    private TextEdges() {
    }

    static void check() {
        buffer();
        words();
        numbers();
        separators();
        otherBytes();
        benchGrammar();
        benchRanges();
        nineLayers();
        scriptGrammar();
        scriptRanges();
        twentyCommands();
        firstError();
        textEnds();
        severalErrors();
        codes();
        appending();
        loading();
        loadingLengths();
        latestError();
        running();
        runningStops();
        runningLengths();
    }

    private static void says(String sentence) {
        Sentences.says(Sentences.TERMS, sentence);
    }

    private static void loads(String text, int sheets) {
        PastryBench bench = new PastryBench();
        Check.same("loading " + text, Check.load(bench, text), sheets);
        Check.error("loading " + text, bench, 0, -1);
    }

    private static void fails(String text, int code, int offset) {
        PastryBench bench = new PastryBench();
        Check.same("loading " + text, Check.load(bench, text), -1);
        Check.error("loading " + text, bench, code, offset);
    }

    private static void runs(String text, int commands) {
        PastryBench bench = Edge.sheets(6);
        Check.same("running " + text, Check.script(bench, text), commands);
        Check.error("running " + text, bench, 0, -1);
    }

    private static void runFails(String text, int code, int offset) {
        PastryBench bench = Edge.sheets(6);
        String before = Check.toldBench(bench);
        Check.same("running " + text, Check.script(bench, text), -1);
        Check.error("running " + text, bench, code, offset);
        Check.same("nothing is executed: " + text, Check.toldBench(bench) + bench.undoableCount(), before + 0);
    }

    private static String padded(String text, int length) {
        return text + " ".repeat(length - text.length());
    }

    private static void buffer() {
        says("Texts are read from an input buffer of at most 500 bytes.");
        PastryBench bench = new PastryBench();
        Check.same("500 bytes", Check.type(bench, padded(HEADER, 496) + SHEET.substring(0, 4)), 500);
        Check.same("the 501st and more", bench.appendText(0, 0, 0, 0, 0), -1);
        Check.badArgument(bench, "501 bytes to parse", () -> bench.loadBench(501));
        Check.same("500 bytes to parse", bench.loadBench(500), -1);
        Check.error("the last token is read", bench, 1, 496);
        loads(padded(HEADER, 500 - SHEET.length()) + SHEET, 1);
        PastryBench script = Edge.sheets(1);
        Check.same("a script of 500 bytes", Check.script(script, padded("wait 1;", 493) + "dust 0;"), 2);
    }

    private static void words() {
        says("A text consists of tokens.");
        fails("", 1, 0);
        loads(HEADER, 0);
        says("A word is a maximal run of the letters a to z.");
        fails("bencha 1 5 0;", 1, 0);
        fails("benchz 1 5 0;", 1, 0);
        fails("bench` 1 5 0;", 1, 5);
        fails("bench{ 1 5 0;", 1, 5);
        fails("benchA 1 5 0;", 1, 5);
        fails("benchZ 1 5 0;", 1, 5);
        fails("Bench 1 5 0;", 1, 0);
        fails("be nch 1 5 0;", 1, 0);
        fails("benc 1 5 0;", 1, 0);
        fails(HEADER + "sheet 1 doughdough 1;", 1, 20);
        fails(HEADER + "sheet 1 dough 1butterdough 1;", 1, 27);
        loads("bench1 5 0;sheet1dough1butter1;", 1);
    }

    private static void numbers() {
        says("A number is a maximal run of decimal digits of any length.");
        loads("bench " + "0".repeat(480) + "40 5 0;", 0);
        fails("bench " + "0".repeat(480) + "41 5 0;", 2, 6);
        fails("bench " + "9".repeat(480) + " 5 0;", 2, 6);
        fails("bench 1" + "0".repeat(32) + " 5 0;", 2, 6);
        fails("bench 4294967297 5 0;", 2, 6);
        fails("bench 18446744073709551617 5 0;", 2, 6);
        fails("bench 2147483648 5 0;", 2, 6);
        fails("bench 2147483647 5 0;", 2, 6);
        loads("bench 19 20 38;sheet 04 dough 56 butter 7;", 1);
        fails("bench 4 0 5 0;", 2, 8);
        fails("bench 1/ 5 0;", 1, 7);
        fails("bench 1: 5 0;", 1, 7);
        fails("bench -1 5 0;", 1, 6);
        fails("bench +1 5 0;", 1, 6);
        fails("bench 1.0 5 0;", 1, 7);
        says("The character ; is a token.");
        loads("bench 1 5 0;sheet 1 dough 1;", 1);
        loads("bench 1 5 0 ; sheet 1 dough 1 ; ", 1);
        fails("bench 1 5 0;;", 1, 12);
        fails("bench 1 5 0:", 1, 11);
        runs("dust 0;dust 1 ;", 2);
        runFails("dust 0;;", 1, 7);
    }

    private static void separators() {
        says("Spaces (byte 32) and line feeds (byte 10) separate tokens and have no other meaning.");
        loads("  \n\n bench\n1 \n 5\n\n0\n;\nsheet\n1\ndough\n1\n;\n \n", 1);
        runs("\n dust\n0 ;\n\nfold  1\n2;\n", 2);
        runs(" ", 0);
        runs("\n", 0);
        fails("bench 1 5 0;sh eet 1 dough 1;", 1, 12);
        fails("bench 1 5 0;sheet 1 dou\ngh 1;", 1, 20);
    }

    private static boolean isKnown(int sign) {
        return sign == ' ' || sign == '\n' || sign == ';' || sign >= '0' && sign <= '9' || sign >= 'a' && sign <= 'z';
    }

    private static void otherBytes() {
        says("Every other byte is an invalid token.");
        for (int sign = 0; sign < 256; sign++) {
            if (!isKnown(sign)) {
                String one = String.valueOf((char) sign);
                fails(one + HEADER, 1, 0);
                fails("bench" + one + "1 5 0;", 1, 5);
                fails("bench 1" + one + " 5 0;", 1, 7);
                fails("bench 1 5 0" + one, 1, 11);
                fails(HEADER + one, 1, 12);
                fails(HEADER + " " + one + one, 1, 13);
                runFails("dust 0;" + one, 1, 7);
                runFails("dust" + one + "0;", 1, 4);
            }
        }
    }

    private static void benchGrammar() {
        says("The grammar of a bench, where quotes enclose literal tokens and braces enclose what may occur any number of times "
                + "(also not at all):");
        loads(HEADER, 0);
        loads(HEADER + "sheet 1 dough 1;", 1);
        loads(HEADER + "sheet 1 dough 1 dough 1;", 1);
        says("bench = \"bench\" room melting flour \";\" { \"sheet\" temperature layer { layer } \";\" }");
        String[] tokens = {"bench", "1", "5", "0", ";", "sheet", "1", "dough", "1", ";"};
        everyTokenMissing(tokens, 5, TextEdges::fails);
        fails("bench 1 5 0;bench 1 5 0;", 1, 12);
        fails("sheet 1 dough 1;", 1, 0);
        fails(HEADER + "sheet 1;", 1, 19);
        fails("bench 1 5 0 0;", 1, 12);
        says("layer = kind thickness");
        fails(HEADER + "sheet 1 dough;", 1, 25);
        fails(HEADER + "sheet 1 dough dough 1;", 1, 26);
        fails(HEADER + "sheet 1 dough 1 1;", 1, 28);
        fails(HEADER + "sheet 1 1;", 1, 20);
        everyLetterCounts("bench", "", " 1 5 0;", TextEdges::fails);
        everyLetterCounts("sheet", HEADER, " 1 dough 1;", TextEdges::fails);
        says("kind  = \"dough\" | \"butter\"");
        everyLetterCounts("dough", HEADER + "sheet 1 ", " 1;", TextEdges::fails);
        everyLetterCounts("butter", HEADER + "sheet 1 dough 1 ", " 1;", TextEdges::fails);
        Check.same("kinds", Check.layers(Check.benchOf(HEADER + "sheet 1 dough 1 butter 1;"), 0), "D1 B1");
        fails(HEADER + "sheet 1 flour 1;", 1, 20);
        fails(HEADER + "sheet 1 dough 1 sheet 1;", 1, 28);
        fails(HEADER + "sheet 1 dough 1 bench 1;", 1, 28);
    }

    private interface Failing {
        void with(String text, int code, int offset);
    }

    /** Without one token the error is at the token behind it, or at the text's end. */
    private static void everyTokenMissing(String[] tokens, int mayEnd, Failing failing) {
        for (int missing = 0; missing < tokens.length; missing++) {
            StringBuilder text = new StringBuilder();
            int offset = 0;
            for (int i = 0; i < tokens.length; i++) {
                offset = i == missing ? text.length() : offset;
                text.append(i == missing ? "" : tokens[i] + " ");
            }
            // Behind a missing number stands the next number, and the error is where the row of them ends.
            if (!tokens[missing].matches("[0-9]+") || !tokens[missing + 1].matches("[0-9]+")) {
                failing.with(text.toString(), 1, offset);
            }
            if (missing > 0 && missing != mayEnd) {
                failing.with(text.substring(0, offset), 1, offset);
            }
        }
    }

    /** A word with a letter changed, dropped or put in is another word. */
    private static void everyLetterCounts(String word, String before, String behind, Failing failing) {
        for (int i = 0; i < word.length(); i++) {
            String head = before + word.substring(0, i);
            failing.with(head + "q" + word.substring(i + 1) + behind, 1, before.length());
            failing.with(head + word.substring(i + 1) + behind, 1, before.length());
            failing.with(head + "q" + word.substring(i) + behind, 1, before.length());
        }
        failing.with(before + word + "q" + behind, 1, before.length());
    }

    private static void benchRanges() {
        says("All of these are numbers: room 0 to 40; melting 5 to 35; flour 0 to 50; temperature 0 to 40; thickness 1 to 400.");
        rangeOf("bench ", " 5 0;", 0, 40);
        rangeOf("bench 1 ", " 0;", 5, 35);
        rangeOf("bench 1 5 ", ";", 0, 50);
        rangeOf(HEADER + "sheet ", " dough 1;", 0, 40);
        rangeOf(HEADER + "sheet 1 dough ", ";", 1, 400);
        rangeOf(HEADER + "sheet 1 butter ", ";", 1, 400);
        rangeOf(HEADER + "sheet 1 butter 1 butter ", ";", 1, 400);
        PastryBench least = Check.benchOf("bench 0 5 0;sheet 0 dough 1;");
        Check.same("the least", Check.toldBench(least), "[D1 / 0  folds 0 expected 1] 0 5 0 0 0 0");
        PastryBench most = Check.benchOf("bench 40 35 50;sheet 40 dough 400;");
        Check.same("the most", Check.toldBench(most), "[D400 / 40  folds 0 expected 1] 40 35 50 0 0 0");
        String[] places = {"bench ", "bench 1 ", "bench 1 5 ", HEADER + "sheet ", HEADER + "sheet 1 dough "};
        for (String place : places) {
            fails(place + "x;", 1, place.length());
            fails(place + ";", 1, place.length());
            fails(place, 1, place.length());
        }
    }

    private static void rangeOf(String before, String behind, int low, int high) {
        int sheets = before.contains("sheet") ? 1 : 0;
        loads(before + low + behind, sheets);
        loads(before + "00" + high + behind, sheets);
        fails(before + (high + 1) + behind, 2, before.length());
        fails(before + "1000" + behind, 2, before.length());
        if (low > 0) {
            fails(before + (low - 1) + behind, 2, before.length());
            fails(before + "0" + behind, 2, before.length());
        }
    }

    private static void nineLayers() {
        says("A sheet in a text has at most 9 layers.");
        Check.same("nine", Check.benchOf(NINE + ";").layerCount(0), 9);
        fails(NINE + " dough 1;", 3, NINE.length() + 1);
        fails(NINE + " butter 1;", 3, NINE.length() + 1);
        Check.same("nine in each", Check.benchOf(NINE + ";" + NINE.substring(HEADER.length()) + ";").layerCount(1), 9);
        says("Layers of the same kind next to each other stay separate.");
        PastryBench bench = Check.benchOf(HEADER + "sheet 1 dough 1 dough 2 butter 3 butter 3 dough 1;");
        Check.same("separate", Check.layers(bench, 0) + " " + bench.seamCount(0), "D1 D2 B3 B3 D1 2");
    }

    private static void scriptGrammar() {
        says("script  = { command \";\" }");
        runs("", 0);
        runs("seal 0;", 1);
        runs("seal 0;seal 1;", 2);
        runFails("seal 0", 1, 6);
        runFails("seal 0 seal 1;", 1, 7);
        runFails(";", 1, 0);
        runFails("seal 0;;", 1, 7);
        says("command = \"fold\" sheet parts | \"roll\" sheet factor | \"dust\" sheet | \"seal\" sheet | \"cool\" sheet | "
                + "\"takeout\" sheet | \"wait\" hours | \"cut\" sheet | \"stack\" sheet sheet");
        String[] ofOne = {"dust", "seal", "cool", "takeout", "wait", "cut"};
        for (String word : ofOne) {
            everyTokenMissing(new String[] {word, "1", ";"}, 0, TextEdges::runFails);
            runFails(word + " 1 1;", 1, word.length() + 3);
        }
        String[] ofTwo = {"fold", "roll", "stack"};
        for (String word : ofTwo) {
            runFails(word + " 1;", 1, word.length() + 2);
            runFails(word + " 1", 1, word.length() + 2);
            runFails(word + ";", 1, word.length());
            runFails(word, 1, word.length());
            runFails(word + " 1 2", 1, word.length() + 4);
            runFails(word + " 1 2 2;", 1, word.length() + 5);
        }
        String[] words = {"fold", "roll", "dust", "seal", "cool", "takeout", "wait", "cut", "stack"};
        for (String word : words) {
            everyLetterCounts(word, "", " 1 2;", TextEdges::runFails);
            everyLetterCounts(word, "wait 1;", " 1;", TextEdges::runFails);
        }
        String[] unknown = {"takeOut", "take out", "passhours", "addbutter", "buyflour", "undo", "foldd", "fol", "Fold", "sheet"};
        for (String word : unknown) {
            runFails(word + " 1;", 1, 0);
        }
    }

    private static void scriptRanges() {
        says("All of these are numbers: sheet 0 to 5; parts and factor 2 to 4; hours 1 to 24.");
        String[] ofSheets = {"dust ", "seal ", "cool ", "cut ", "takeout "};
        for (String word : ofSheets) {
            reads(word + "0;", true);
            reads(word + "5;", true);
            runFails(word + "6;", 2, word.length());
        }
        String[] ofParts = {"fold ", "roll "};
        for (String word : ofParts) {
            reads(word + "0 2;", true);
            reads(word + "5 4;", true);
            runFails(word + "6 2;", 2, word.length());
            runFails(word + "0 1;", 2, word.length() + 2);
            runFails(word + "0 0;", 2, word.length() + 2);
            runFails(word + "0 5;", 2, word.length() + 2);
        }
        reads("stack 0 5;", true);
        reads("stack 5 0;", true);
        runFails("stack 6 0;", 2, 6);
        runFails("stack 0 6;", 2, 8);
        reads("wait 1;", true);
        reads("wait 24;", true);
        runFails("wait 0;", 2, 5);
        runFails("wait 25;", 2, 5);
        runFails("wait -1;", 1, 5);
        runFails("fold x 2;", 1, 5);
        runFails("fold 0 x;", 1, 7);
    }

    private static void reads(String text, boolean due) {
        PastryBench bench = Edge.sheets(6);
        Check.same("reading " + text, Check.script(bench, text) >= 0, due);
        Check.error("reading " + text, bench, 0, -1);
    }

    private static void twentyCommands() {
        says("A script has at most 20 commands.");
        runs("wait 1;".repeat(19), 19);
        runs(TWENTY, 20);
        runs(TWENTY + " \n", 20);
        runFails(TWENTY + "wait 1;", 3, TWENTY.length());
        says("It is parsed completely before its first command is executed.");
        runFails("wait 1;dust 0;fold 0 5;", 2, 21);
        runFails("wait 1;dust 0;cut 1", 1, 19);
        runFails(TWENTY + "cut", 3, TWENTY.length());
    }

    private static void firstError() {
        says("Parsing stops at the first token that causes an error.");
        fails("bench 41 99 99;sheet", 2, 6);
        fails("bench x 99 99;", 1, 6);
        fails("bench 1 99 x", 2, 8);
        runFails("dust 6;dust 7;x", 2, 5);
        runFails("dust ;dust 7;", 1, 5);
        says("The error offset is the offset of the first byte of this token, or the length of the text if the text ends too early.");
        fails("x", 1, 0);
        fails(" \n x", 1, 3);
        fails("bench 000041 5 0;", 2, 6);
        fails("bench 1 5 0;   sheets", 1, 15);
        runFails("dust 0; \n 66", 1, 10);
    }

    private static void textEnds() {
        // Behind the cut the buffer goes on with letters and digits, which must not be read.
        String whole = "bench 12 5 20;sheet 10 dough 100;";
        for (int length = 0; length <= whole.length(); length++) {
            boolean stands = length == 14 || length == whole.length();
            boolean inWord = length > 0 && length < 5 || length > 14 && length < 19 || length > 23 && length < 28;
            int start = length < 5 ? 0 : length < 19 ? 14 : 23;
            PastryBench bench = new PastryBench();
            Check.type(bench, whole);
            Check.same("the first " + length, bench.loadBench(length), stands ? length / 33 : -1);
            Check.error("the first " + length, bench, stands ? 0 : 1, stands ? -1 : inWord ? start : length);
        }
        PastryBench script = new PastryBench();
        Check.type(script, "wait 1;wait 24;");
        Check.same("wait 1;wait 2", script.runScript(13), -1);
        Check.error("wait 1;wait 2", script, 1, 13);
        fails("bench 1 5 " + "0".repeat(490), 1, 500);
        fails(HEADER + "z".repeat(488), 1, 12);
        fails(padded(HEADER, 499) + "#", 1, 499);
        fails("", 1, 0);
        fails(" ", 1, 1);
        fails("bench 1 5 0 \n ", 1, 14);
        fails(padded("bench 1 5 0", 500), 1, 500);
        runFails(padded("dust 0", 500), 1, 500);
        runFails("dust\n", 1, 5);
    }

    private static void severalErrors() {
        says("If several errors apply to the same token, the one with the smallest code is reported.");
        fails(SIX + "99", 1, SIX.length());
        fails(SIX + "dough 1;", 1, SIX.length());
        fails(NINE + " 999;", 1, NINE.length() + 1);
        fails(NINE + " sheet 1;", 1, NINE.length() + 1);
        fails("bench 1 5 0 99;", 1, 12);
        fails("99 1 5 0;", 1, 0);
        runFails(TWENTY + "99", 1, TWENTY.length());
        runFails(TWENTY + "waits 1;", 1, TWENTY.length());
        runFails(TWENTY + "sheet", 1, TWENTY.length());
        runFails("dust 0 99;", 1, 7);
        runFails("99 0;", 1, 0);
    }

    private static void codes() {
        says("Code 1: the token is not allowed at this place, it is invalid, or the text ends too early.");
        fails("bench bench", 1, 6);
        fails("bench #", 1, 6);
        fails("bench ", 1, 6);
        says("Code 2: a number is out of range.");
        fails("bench 41", 2, 6);
        fails("bench 1 4", 2, 8);
        runFails("dust 0;dust 6", 2, 12);
        says("Code 3: the word sheet of the 7th sheet of a bench, the word dough or butter of the 10th layer of a sheet, or the first word "
                + "of the 21st command of a script.");
        loads(SIX, 6);
        fails(SIX + "sheet", 3, SIX.length());
        fails(SIX + "\n" + SHEET, 3, SIX.length() + 1);
        fails(SIX + "sheet 99 #", 3, SIX.length());
        fails(NINE + "dough", 3, NINE.length());
        fails(NINE + "butter 1;", 3, NINE.length());
        fails(NINE + "dough 999;", 3, NINE.length());
        String[] words = {"fold", "roll", "dust", "seal", "cool", "takeout", "wait", "cut", "stack"};
        for (String word : words) {
            runFails(TWENTY + word, 3, TWENTY.length());
            runFails(TWENTY + " " + word + " 9;", 3, TWENTY.length() + 1);
        }
    }

    private static void appending() {
        Sentences.says(2, "Appends 20 bytes to the input buffer: the four bytes of each parameter, the most significant byte first.");
        PastryBench bench = new PastryBench();
        Check.same("a bench", bench.appendText(0x62656e63, 0x68203120, 0x3520303b, 0x73686565, 0x74203264), 20);
        bench.appendText(0x6f756768, 0x20333b20, 0x20202020, 0x20202020, 0x20202020);
        Check.same("read", bench.loadBench(40), 1);
        Check.same("loaded", Check.toldBench(bench), "[D3 / 2  folds 0 expected 1] 1 5 0 0 0 0");
        String[] bullets = {"- `a`: bytes 0 to 3", "- `b`: bytes 4 to 7", "- `c`: bytes 8 to 11", "- `d`: bytes 12 to 15",
            "- `e`: bytes 16 to 19"};
        for (int i = 0; i < 20; i++) {
            Sentences.says(2, bullets[i / 4]);
            fails(" ".repeat(i) + "#" + " ".repeat(19 - i), 1, i);
            fails(" ".repeat(i) + "\u00ff" + " ".repeat(19 - i), 1, i);
            fails(" ".repeat(i) + "\u0000" + " ".repeat(19 - i), 1, i);
        }
        Sentences.says(2, "Returns the new number of bytes in the buffer; -1 if it would exceed 500, in which case nothing is appended.");
        PastryBench full = new PastryBench();
        int spaces = 0x20202020;
        for (int i = 1; i <= 24; i++) {
            Check.same("append " + i, full.appendText(spaces, spaces, spaces, spaces, spaces), 20 * i);
        }
        Check.same("the last that fits", full.appendText(spaces, spaces, 0x62656e63, 0x68203120, 0x3520303b), 500);
        Check.same("one too many", full.appendText(-1, -1, -1, -1, -1), -1);
        Check.same("once more", full.appendText(spaces, spaces, spaces, spaces, spaces), -1);
        Check.badArgument(full, "there are 500 bytes", () -> full.loadBench(501));
        Check.same("as they were", full.loadBench(500), 0);
        Check.same("after the buffer was emptied", full.appendText(0, 0, 0, 0, 0), 20);
    }

    private static PastryBench used() {
        PastryBench bench = Check.benchOf("bench 20 10 5;sheet 15 dough 8 butter 3 dough 8 butter 30;sheet 12 dough 4;");
        bench.roll(0, 2);
        bench.fold(0, 2);
        bench.dust(0);
        bench.seal(0);
        bench.cool(0);
        bench.passHours(3);
        bench.writeSheet(1);
        bench.saveSnapshot();
        return bench;
    }

    private static void loading() {
        Sentences.says(3, "Parses the first bytes of the input buffer as a bench.");
        PastryBench first = new PastryBench();
        Check.type(first, HEADER + SHEET + "#");
        Check.same("without the last byte", first.loadBench(HEADER.length() + SHEET.length()), 1);
        Sentences.says(3, "If there is no error, a new bench replaces the old one: nothing is dusted, sealed or in the refrigerator, all "
                + "counts are 0, the undo history is cleared, and the snapshot is discarded.");
        PastryBench bench = used();
        Check.same("load", Check.load(bench, "bench 20 10 5;sheet 15 dough 8 butter 3;sheet 12 dough 4;"), 2);
        Check.same("a new bench", Check.toldBench(bench),
                "[D8 B3 / 15  folds 0 expected 2] [D4 / 12  folds 0 expected 1] 20 10 5 0 0 0");
        Check.same("the history", bench.undoableCount(), 0);
        Check.badState(bench, "undo", bench::undo);
        Check.badState(bench, "the snapshot", bench::restoreSnapshot);
        Check.same("places in the refrigerator", bench.cool(0) + bench.cool(1), 3);
        Sentences.says(3, "The buffer is emptied in any case.");
        String[] texts = {HEADER + SHEET, "bench", "x", padded(HEADER, 500), padded("x", 500)};
        for (String text : texts) {
            PastryBench emptied = new PastryBench();
            Check.load(emptied, text);
            Check.badArgument(emptied, "a byte after " + text, () -> emptied.loadBench(1));
            Check.same("append after " + text, emptied.appendText(0, 0, 0, 0, 0), 20);
        }
        PastryBench partly = new PastryBench();
        Check.type(partly, HEADER + SHEET);
        partly.loadBench(0);
        Check.badArgument(partly, "a byte after 0 bytes", () -> partly.loadBench(1));
        Sentences.says(3, "Returns the number of sheets; -1 if there is a parse error, in which case the bench stays as it is.");
        for (int sheets = 0; sheets <= 6; sheets++) {
            loads(HEADER + SHEET.repeat(sheets), sheets);
        }
        String[] wrong = {"bench 1 5 0;sheet 1 dough 1", "bench 1 5 51;", SIX + "sheet", ""};
        for (String text : wrong) {
            PastryBench stays = used();
            String before = Check.toldBench(stays) + Check.output(stays) + stays.undoableCount();
            Check.same(text, Check.load(stays, text), -1);
            Check.same("it stays", Check.toldBench(stays) + Check.output(stays) + stays.undoableCount(), before);
            Check.same("the snapshot stays", stays.restoreSnapshot(), 2);
        }
    }

    private static void loadingLengths() {
        Sentences.says(3, "Throws `IllegalArgumentException` if length is negative or greater than the number of bytes in the buffer; "
                + "the buffer is not emptied then");
        PastryBench empty = new PastryBench();
        Check.badArgument(empty, "1 of 0", () -> empty.loadBench(1));
        Check.same("0 of 0", empty.loadBench(0), -1);
        for (int bytes = 0; bytes <= 500; bytes += 20) {
            PastryBench bench = new PastryBench();
            Check.type(bench, bytes == 0 ? "" : padded(HEADER, bytes));
            int[] wrong = {-1, bytes + 1, Integer.MIN_VALUE, Integer.MAX_VALUE};
            for (int length : wrong) {
                Check.badArgument(bench, length + " of " + bytes, () -> bench.loadBench(length));
            }
            Check.same("all of " + bytes, bench.loadBench(bytes), bytes == 0 ? -1 : 0);
        }
    }

    private static void latestError() {
        Sentences.says(4, "Returns the code of the parse error of the latest call of loadBench or runScript that did not throw.");
        errorsOfTheLatestCall();
        Sentences.says(5, "Returns the offset of the parse error of the latest call of loadBench or runScript that did not throw.");
        errorsOfTheLatestCall();
        Sentences.says(4, "Returns 1, 2 or 3; 0 if that call found no error or there was no such call.");
        Check.same("no call", new PastryBench().errorCode(), 0);
        fails("", 1, 0);
        fails("bench 41", 2, 6);
        fails(SIX + "sheet", 3, SIX.length());
        loads(HEADER, 0);
        Sentences.says(5, "Returns the offset; -1 if that call found no error or there was no such call.");
        Check.same("no call", new PastryBench().errorOffset(), -1);
        fails("x", 1, 0);
        fails(padded("bench", 500), 1, 500);
        runs("", 0);
    }

    private static void errorsOfTheLatestCall() {
        PastryBench bench = new PastryBench();
        Check.load(bench, "bench 41");
        Check.error("load", bench, 2, 6);
        Check.badArgument(bench, "a load that throws", () -> bench.loadBench(-1));
        Check.badArgument(bench, "a script that throws", () -> bench.runScript(1));
        Check.type(bench, "x");
        bench.fold(0, 2);
        bench.undo();
        Check.error("no other call", bench, 2, 6);
        bench.loadBench(0);
        Check.error("a later load", bench, 1, 0);
        Check.script(bench, "dust 0;dust 9;");
        Check.error("a script", bench, 2, 12);
        Check.script(bench, "takeout 0;");
        Check.error("a script that is refused", bench, 0, -1);
        Check.script(bench, "dust");
        Check.load(bench, HEADER);
        Check.error("a load without error", bench, 0, -1);
    }

    private static void running() {
        Sentences.says(52, "Parses the first bytes of the input buffer as a script and, if there is no error, executes its commands in order: "
                + "fold, roll, dust, seal, cool, cut and stack do what the methods of the same names do, takeout does what takeOut does, and "
                + "wait does what passHours does.");
        same("fold 1 4;", bench -> bench.fold(1, 4));
        same("roll 1 3;", bench -> bench.roll(1, 3));
        same("dust 1;", bench -> bench.dust(1));
        same("seal 1;", bench -> bench.seal(1));
        same("cool 1;", bench -> bench.cool(1));
        same("takeout 2;", bench -> bench.takeOut(2));
        same("wait 24;", bench -> bench.passHours(24));
        same("cut 1;", bench -> bench.cut(1));
        same("stack 0 1;", bench -> bench.stack(0, 1));
        same("stack 1 0;", bench -> bench.stack(1, 0));
        PastryBench ordered = Edge.sheets(1);
        Check.same("in order", Check.script(ordered, "dust 0;fold 0 2;roll 0 2;cut 0;"), 4);
        Check.same("in order", Edge.rows(ordered), "D4 B4 D4 D4 B4 D4 | D4 B4 D4 D4 B4 D4");
        Sentences.says(52, "The buffer is emptied.");
        String[] texts = {"dust 0;", "dust", "takeout 0;", "", padded("dust 0;", 500)};
        for (String text : texts) {
            PastryBench bench = new PastryBench();
            Check.type(bench, text);
            bench.runScript(text.length());
            Check.badArgument(bench, "a byte after " + text, () -> bench.runScript(1));
            Check.same("append after " + text, bench.appendText(0, 0, 0, 0, 0), 20);
        }
        PastryBench partly = new PastryBench();
        Check.type(partly, "dust 0;dust 1;");
        Check.same("the first command", partly.runScript(7), 1);
        Check.badArgument(partly, "the second is gone", () -> partly.runScript(7));
    }

    private interface Change {
        void on(PastryBench bench);
    }

    private static void same(String script, Change change) {
        PastryBench one = Edge.sheets(3);
        PastryBench other = Edge.sheets(3);
        one.cool(2);
        other.cool(2);
        Check.same(script, Check.script(one, script), 1);
        change.on(other);
        Check.same(script, Check.told(one), Check.told(other));
    }

    private static PastryBench refusing() {
        PastryBench bench = Check.benchOf("bench 1 9 1;sheet 12 dough 400 dough 400 dough 400;sheet 40 butter 4;sheet 1 dough 1;");
        Check.script(bench, "cool 2;dust 0;seal 0;");
        return bench;
    }

    private static void runningStops() {
        Sentences.says(52, "Execution stops at the first command whose method would throw an exception; runScript itself does not throw then.");
        String[] refused = {"fold 3 2", "fold 0 4", "fold 2 2", "roll 3 2", "roll 1 4", "roll 2 2", "dust 3", "dust 0", "dust 2", "dust 1",
            "seal 3", "seal 0", "seal 2", "cool 3", "cool 2", "takeout 3", "takeout 0", "cut 3", "cut 2", "stack 0 3", "stack 3 0",
            "stack 1 1", "stack 4 4", "stack 1 2", "stack 2 1"};
        for (String command : refused) {
            PastryBench bench = refusing();
            String before = Check.toldBench(bench);
            Check.same(command, Check.script(bench, command + ";seal 1;"), 0);
            Check.same(command + " and nothing behind it", Check.toldBench(bench), before);
            Check.same(command + " behind another", Check.script(bench, "wait 1;" + command + ";seal 1;"), 1);
            Check.same("hours", bench.hoursPassed(), 1);
        }
        PastryBench old = Edge.after(9998);
        Check.same("9999 hours", Check.script(old, "wait 1;wait 1;dust 0;"), 1);
        Check.same("no dust", old.isDusted(0), false);
        PastryBench full = Edge.sheets(5);
        Check.same("six sheets", Check.script(full, "cut 0;cut 0;"), 1);
        Check.same("the refrigerator's places", Check.script(Edge.sheets(4), "cool 3;cool 2;cool 1;cool 0;"), 3);
        Sentences.says(52, "Returns the number of commands that were executed; -1 if there is a parse error.");
        runs("", 0);
        runs("takeout 0;", 0);
        runs(TWENTY, 20);
        runs("wait 1;".repeat(19) + "takeout 0;", 19);
        runFails("dust 0;dust", 1, 11);
    }

    private static void runningLengths() {
        Sentences.says(52, "Throws `IllegalArgumentException` if length is negative or greater than the number of bytes in the buffer; "
                + "the buffer is not emptied then");
        PastryBench empty = new PastryBench();
        Check.badArgument(empty, "1 of 0", () -> empty.runScript(1));
        Check.same("0 of 0", empty.runScript(0), 0);
        for (int bytes = 0; bytes <= 500; bytes += 20) {
            PastryBench bench = new PastryBench();
            Check.type(bench, bytes == 0 ? "" : padded("dust 0;", bytes));
            int[] wrong = {-1, bytes + 1, Integer.MIN_VALUE, Integer.MAX_VALUE};
            for (int length : wrong) {
                Check.badArgument(bench, length + " of " + bytes, () -> bench.runScript(length));
            }
            Check.same("all of " + bytes, bench.runScript(bytes), bytes == 0 ? 0 : 1);
        }
    }
}
