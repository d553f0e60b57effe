import java.lang.reflect.InvocationTargetException;
import java.lang.reflect.Method;
import java.util.ArrayDeque;
import java.util.ArrayList;
import java.util.Comparator;
import java.util.Deque;
import java.util.List;

/** All promises: the program and SlowBench answer the same to long runs of calls, the same runs every time. */
public final class ModelTest {
    private static final int RUNS = 2500;
    private static final int CALLS = 512;
    private static final String[] CHANGES = {"fold", "roll", "dust", "seal", "cool", "takeOut", "passHours", "cut", "stack",
        "addButter", "buyFlour"};
    private static final String[] COMMANDS = {"fold", "roll", "dust", "seal", "cool", "takeout", "wait", "cut", "stack"};
    private static final int[] EDGES = {0, 1, -1, 2, 3, 4, 5, 6, 7, 24, 25, 50, 51, 200, 400, 401, 500, Integer.MAX_VALUE,
        Integer.MIN_VALUE};

    private final Luck luck;
    private final PastryBench bench = new PastryBench();
    private final SlowBench model = new SlowBench();
    private final List<String> told = new ArrayList<>();
    private int calls = 0;

    /** A row of numbers that looks like chance and is the same every time. */
    private static final class Luck {
        private long state;

        Luck(long seed) {
            state = seed * 7919 + 17;
        }

        int below(int bound) {
            state = state * 6364136223846793005L + 1442695040888963407L;
            return (int) ((state >>> 33) % bound);
        }

        boolean once(int in) {
            return below(in) == 0;
        }

        int between(int low, int high) {
            return low + below(high - low + 1);
        }

        <T> T of(T[] things) {
            return things[below(things.length)];
        }
    }

    private ModelTest(int run) {
        luck = new Luck(run);
    }

    public static void main(String[] args) throws Exception {
        Method[] methods = PastryBench.class.getDeclaredMethods();
        List<Method> face = new ArrayList<>();
        for (Method method : methods) {
            if (java.lang.reflect.Modifier.isPublic(method.getModifiers())) {
                face.add(method);
            }
        }
        face.sort(Comparator.comparing(Method::getName));
        Check.same("methods of the face", face.size(), 58 - 1);
        for (int run = 0; run < RUNS; run++) {
            if (!new ModelTest(run).agrees(face)) {
                Check.same("run " + run, "differs", "agrees");
                break;
            }
            Check.same("run " + run, "agrees", "agrees");
        }
        Check.finish("ModelTest");
    }

    private boolean agrees(List<Method> face) throws Exception {
        boolean agreed = true;
        while (agreed && calls < CALLS) {
            int what = luck.below(100);
            if (what < 4) {
                agreed = text(luck.once(4) ? benchText() : smallBench(), "loadBench");
            } else if (what < 9) {
                agreed = text(scriptText(), "runScript");
            } else if (what < 55) {
                agreed = call(luck.of(CHANGES));
            } else if (what < 57) {
                agreed = call(luck.of(new String[] {"undo", "undo", "undo", "saveSnapshot", "restoreSnapshot"}));
            } else {
                agreed = call(face.get(luck.below(face.size())).getName());
            }
        }
        if (agreed) {
            calls = 0;
            agreed = compareAll(face);
        }
        if (!agreed) {
            told.forEach(System.out::println);
        }
        return agreed;
    }

    /** The end of a run: everything that can be asked, beyond the 512 calls too. */
    private boolean compareAll(List<Method> face) throws Exception {
        for (Method method : face) {
            boolean asks = !List.of(CHANGES).contains(method.getName()) && method.getParameterCount() < 2
                    && !List.of("loadBench", "runScript", "undo", "saveSnapshot", "restoreSnapshot").contains(method.getName());
            for (int i = 0; asks && i < 6; i++) {
                if (!both(method.getName(), method.getParameterCount() == 0 ? new int[0] : new int[] {i})) {
                    return false;
                }
            }
        }
        for (int sheet = 0; sheet < model.sheetCount(); sheet++) {
            for (int layer = 0; layer <= model.layerCount(sheet); layer++) {
                if (!both("thickness", sheet, layer) || !both("isButter", sheet, layer)) {
                    return false;
                }
            }
        }
        return true;
    }

    private boolean text(String text, String reader) throws Exception {
        Deque<Integer> words = new ArrayDeque<>();
        for (int at = 0; at < text.length() || words.size() % 5 != 0; at += 4) {
            int word = 0;
            for (int i = at; i < at + 4; i++) {
                word = word << 8 | (i < text.length() ? text.charAt(i) & 255 : ' ');
            }
            words.add(word);
        }
        while (!words.isEmpty()) {
            if (!both("appendText", words.remove(), words.remove(), words.remove(), words.remove(), words.remove())) {
                return false;
            }
        }
        int length = luck.once(20) ? luck.of(new Integer[] {-1, 501, text.length() / 2, text.length() + 25}) : text.length();
        return both(reader, length);
    }

    private boolean call(String name) throws Exception {
        switch (name) {
            case "fold", "roll", "foldObstacle", "layersAfterFold", "foldsPossible", "layersAtRisk", "heightAfterRoll":
                return both(name, sheet(), number(2, 4));
            case "passHours":
                return both(name, number(1, luck.once(3) ? 24 : 3));
            case "temperatureAfter":
                return both(name, sheet(), number(0, 24));
            case "stack":
                return both(name, sheet(), sheet());
            case "addButter":
                return both(name, sheet(), number(1, luck.once(3) ? 400 : 9));
            case "buyFlour":
                return both(name, number(1, 50));
            case "isButter", "thickness":
                return both(name, sheet(), number(0, luck.once(3) ? 200 : 8));
            case "appendText":
                return luck.below(9) != 0 || both(name, luck.below(99), -luck.below(9), luck.below(9), 0x20200a20, 0x203b2020);
            case "loadBench", "runScript":
                return luck.below(9) != 0 || both(name, number(0, 60));
            case "outputByte":
                return both(name, number(0, luck.once(3) ? 900 : 20));
            case "sheetCount", "roomTemperature", "meltingPoint", "flour", "hoursPassed", "escapedButter", "brokenLayers",
                 "warmestSheet", "finestSheet", "errorCode", "errorOffset", "undoableCount", "undo", "saveSnapshot",
                 "restoreSnapshot":
                return both(name);
            default:
                return both(name, sheet());
        }
    }

    private int sheet() {
        int count = model.sheetCount();
        return count == 0 || luck.once(40) ? EDGES[luck.below(EDGES.length)] : luck.below(count);
    }

    private int number(int low, int high) {
        return luck.once(40) ? EDGES[luck.below(EDGES.length)] : luck.between(low, high);
    }

    private boolean both(String name, int... arguments) throws Exception {
        calls++;
        Object got = answer(bench, name, arguments);
        Object due = answer(model, name, arguments);
        StringBuilder row = new StringBuilder(name).append('(');
        for (int i = 0; i < arguments.length; i++) {
            row.append(i == 0 ? "" : ", ").append(arguments[i]);
        }
        told.add(row.append(") = ").append(got).append(got.equals(due) ? "" : ", due is " + due).toString());
        return got.equals(due);
    }

    private static Object answer(Object of, String name, int... arguments) throws Exception {
        Class<?>[] types = new Class<?>[arguments.length];
        Object[] values = new Object[arguments.length];
        for (int i = 0; i < arguments.length; i++) {
            types[i] = int.class;
            values[i] = arguments[i];
        }
        try {
            Object got = of.getClass().getMethod(name, types).invoke(of, values);
            return got == null ? "nothing" : got;
        } catch (InvocationTargetException e) {
            return "throws " + e.getCause().getClass().getName();
        }
    }

    // ---- texts

    private String benchText() {
        StringBuilder text = new StringBuilder("bench ").append(range(0, 40)).append(space()).append(range(5, 35));
        text.append(space()).append(range(0, 50)).append(";");
        for (int i = luck.below(luck.once(9) ? 8 : 6); i > 0; i--) {
            text.append("sheet ").append(range(0, 40));
            for (int layer = luck.between(1, luck.once(9) ? 10 : 5); layer > 0; layer--) {
                text.append(space()).append(luck.once(2) ? "dough " : "butter").append(range(1, luck.once(2) ? 400 : 9));
            }
            text.append(";").append(luck.once(9) ? "\n" : "");
        }
        return spoilt(text.toString());
    }

    /** Sheets of few and thin layers, of which long runs can be made. */
    private String smallBench() {
        StringBuilder text = new StringBuilder("bench 20 ").append(luck.between(5, 25)).append(" 50;");
        for (int i = luck.between(1, 5); i > 0; i--) {
            text.append("sheet ").append(luck.between(0, 30));
            for (int layer = luck.between(1, 6); layer > 0; layer--) {
                text.append(luck.once(2) ? " dough " : " butter ").append(luck.between(1, 12));
            }
            text.append(";");
        }
        return text.toString();
    }

    private String scriptText() {
        StringBuilder text = new StringBuilder();
        for (int i = luck.below(luck.once(9) ? 23 : 6); i > 0; i--) {
            String command = luck.of(COMMANDS);
            text.append(command).append(' ');
            text.append(command.equals("wait") ? range(1, 24) : range(0, Math.min(5, model.sheetCount())));
            if (command.equals("fold") || command.equals("roll")) {
                text.append(' ').append(range(2, 4));
            }
            if (command.equals("stack")) {
                text.append(' ').append(range(0, Math.min(5, model.sheetCount())));
            }
            text.append(";");
        }
        return spoilt(text.toString());
    }

    private String range(int low, int high) {
        if (luck.once(60)) {
            return luck.of(new String[] {"0", "99", "401", "000", "0003", "4294967297", "99999999999999999999999", "6", "41", "x"});
        }
        return String.valueOf(luck.between(low, high));
    }

    private String space() {
        return luck.once(9) ? luck.of(new String[] {"\n", "  ", " \n "}) : " ";
    }

    private String spoilt(String text) {
        if (text.isEmpty() || !luck.once(3)) {
            return text;
        }
        StringBuilder spoilt = new StringBuilder(text);
        int at = luck.below(text.length());
        if (luck.once(3)) {
            spoilt.deleteCharAt(at);
        } else if (luck.once(2)) {
            spoilt.insert(at, luck.of(new String[] {";", " ", "A", "9", "a", "\t", "\u00e9", "sheet", "dough", "cut", "-", "\u0000"}));
        } else {
            spoilt.setLength(at);
        }
        return spoilt.toString();
    }
}
