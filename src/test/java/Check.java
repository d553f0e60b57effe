import java.util.ArrayList;
import java.util.List;
import java.util.function.IntSupplier;

/** What the tests share: comparing answers, typing texts, and telling a whole bench as one text. */
final class Check {
    private static int checks = 0;
    private static int wrong = 0;
    private static String subject = "";

    private Check() {
    }

    /** Tells what the checks that follow are about; it stands ahead of every wrong answer. */
    static void about(String what) {
        subject = what.isEmpty() ? "" : what + " | ";
    }

    static void same(String what, Object got, Object want) {
        checks++;
        if (!got.equals(want)) {
            wrong++;
            System.out.println(subject + what + ": answered " + got + ", due is " + want);
        }
    }

    /** The exception must be of the very class, so that none of the machine's own passes for it. */
    static void raises(String what, Class<? extends RuntimeException> due, Runnable call) {
        same(what, thrownBy(call), due.getName());
    }

    /** The call must throw and leave everything that can be asked as it was. */
    static void refuses(PastryBench bench, String what, Class<? extends RuntimeException> due, Runnable call) {
        String before = told(bench);
        raises(what, due, call);
        same(what + " changes nothing", told(bench), before);
    }

    static void noSheet(PastryBench bench, String what, Runnable call) {
        refuses(bench, what, IndexOutOfBoundsException.class, call);
    }

    static void badArgument(PastryBench bench, String what, Runnable call) {
        refuses(bench, what, IllegalArgumentException.class, call);
    }

    static void badState(PastryBench bench, String what, Runnable call) {
        refuses(bench, what, IllegalStateException.class, call);
    }

    static void accepts(String what, Runnable call) {
        same(what, thrownBy(call), "nothing");
    }

    private static String thrownBy(Runnable call) {
        try {
            call.run();
            return "nothing";
        } catch (RuntimeException e) {
            return e.getClass().getName();
        }
    }

    static void finish(String name) {
        System.out.println(name + ": " + checks + " checks, " + wrong + " wrong");
        if (wrong != 0 || checks == 0) {
            System.exit(1);
        }
    }

    /** Types the text, filled up with spaces to whole calls of appendText; answers the last call's answer. */
    static int type(PastryBench bench, String text) {
        int answer = 0;
        for (int at = 0; at < text.length(); at += 20) {
            answer = bench.appendText(word(text, at), word(text, at + 4), word(text, at + 8),
                    word(text, at + 12), word(text, at + 16));
        }
        return answer;
    }

    private static int word(String text, int at) {
        int word = 0;
        for (int i = at; i < at + 4; i++) {
            word = word << 8 | (i < text.length() ? text.charAt(i) & 255 : ' ');
        }
        return word;
    }

    static int load(PastryBench bench, String text) {
        type(bench, text);
        return bench.loadBench(text.length());
    }

    static int script(PastryBench bench, String text) {
        type(bench, text);
        return bench.runScript(text.length());
    }

    static PastryBench benchOf(String text) {
        PastryBench bench = new PastryBench();
        load(bench, text);
        same("error of the bench " + text, bench.errorCode(), 0);
        return bench;
    }

    static void error(String what, PastryBench bench, int code, int offset) {
        same(what + ": code", bench.errorCode(), code);
        same(what + ": offset", bench.errorOffset(), offset);
    }

    /** Layers from the bottom to the top, as D60 or B3, with the queries alone. */
    static String layers(PastryBench bench, int sheet) {
        List<String> told = new ArrayList<>();
        for (int i = 0; i < bench.layerCount(sheet); i++) {
            told.add((bench.isButter(sheet, i) ? "B" : "D") + bench.thickness(sheet, i));
        }
        return String.join(" ", told);
    }

    static String output(PastryBench bench) {
        StringBuilder text = new StringBuilder();
        int length = outputLength(bench);
        for (int i = 0; i < length; i++) {
            text.append((char) bench.outputByte(i));
        }
        return text.toString();
    }

    private static int outputLength(PastryBench bench) {
        int length = 0;
        while (thrownBy(byteAt(bench, length)).equals("nothing")) {
            length++;
        }
        return length;
    }

    private static Runnable byteAt(PastryBench bench, int index) {
        return () -> bench.outputByte(index);
    }

    static String flags(PastryBench bench, int sheet) {
        return (bench.isDusted(sheet) ? "dusted " : "") + (bench.isSealed(sheet) ? "sealed " : "")
                + (bench.isCooling(sheet) ? "cooling" : "");
    }

    static String toldSheet(PastryBench bench, int sheet) {
        return layers(bench, sheet) + " / " + bench.temperature(sheet) + " " + flags(bench, sheet)
                + " folds " + bench.foldCount(sheet) + " expected " + bench.expectedLayers(sheet);
    }

    /** The bench without the history, the output and the parse error. */
    static String toldBench(PastryBench bench) {
        StringBuilder told = new StringBuilder();
        for (int i = 0; i < bench.sheetCount(); i++) {
            told.append('[').append(toldSheet(bench, i)).append("] ");
        }
        told.append(bench.roomTemperature()).append(' ').append(bench.meltingPoint()).append(' ');
        told.append(bench.flour()).append(' ').append(bench.hoursPassed()).append(' ');
        told.append(bench.escapedButter()).append(' ').append(bench.brokenLayers());
        return told.toString();
    }

    static String told(PastryBench bench) {
        return toldBench(bench) + " undoable " + bench.undoableCount() + " error " + bench.errorCode() + "@"
                + bench.errorOffset() + " output " + output(bench);
    }

    /** The sheets that never are, asked with a call that takes the index of one. */
    static void noSuchSheets(PastryBench bench, String what, java.util.function.IntConsumer call) {
        int[] indexes = {-1, bench.sheetCount(), 6, Integer.MIN_VALUE, Integer.MAX_VALUE};
        for (int index : indexes) {
            noSheet(bench, what + "(" + index + ")", () -> call.accept(index));
        }
    }

    static void answers(String what, IntSupplier call, int... due) {
        for (int i = 0; i < due.length; i++) {
            same(what + ", call " + i, call.getAsInt(), due[i]);
        }
    }
}
