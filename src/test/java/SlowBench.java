import java.util.ArrayDeque;
import java.util.ArrayList;
import java.util.Collections;
import java.util.Deque;
import java.util.List;
import java.util.regex.Matcher;
import java.util.regex.Pattern;

/**
 * The document once more, written apart from the program with lists and exceptions, to compare the answers of both.
 * Its methods bear the names of the program's, so that ModelTest calls both in the same way.
 */
public final class SlowBench {
    record Layer(boolean butter, int thick) {
    }

    private static final class Dough {
        List<Layer> layers = new ArrayList<>();
        int temperature;
        boolean dusted;
        boolean sealed;
        boolean cooling;
        int folds;

        Dough copy() {
            Dough copy = new Dough();
            copy.layers = new ArrayList<>(layers);
            copy.temperature = temperature;
            copy.dusted = dusted;
            copy.sealed = sealed;
            copy.cooling = cooling;
            copy.folds = folds;
            return copy;
        }
    }

    private static final class State {
        List<Dough> sheets = new ArrayList<>();
        int room;
        int melting;
        int flour;
        int hours;
        int escaped;
        int broken;

        State copy() {
            State copy = new State();
            for (Dough sheet : sheets) {
                copy.sheets.add(sheet.copy());
            }
            copy.room = room;
            copy.melting = melting;
            copy.flour = flour;
            copy.hours = hours;
            copy.escaped = escaped;
            copy.broken = broken;
            return copy;
        }
    }

    private static final class ParseError extends Exception {
        private static final long serialVersionUID = 1;
        final int code;
        final int offset;

        ParseError(int code, int offset) {
            this.code = code;
            this.offset = offset;
        }
    }

    private record Token(String text, int offset) {
    }

    private State now = new State();
    private final Deque<State> past = new ArrayDeque<>();
    private State saved = null;
    private String buffer = "";
    private String output = "";
    private int code = 0;
    private int offset = -1;

    public SlowBench() {
        now.room = 22;
        now.melting = 18;
        now.flour = 5;
        now.sheets.add(sheetOf(10, "D60 B40 D60"));
        now.sheets.add(sheetOf(20, "D30 B9 D25 B3 D30"));
    }

    private static Dough sheetOf(int temperature, String layers) {
        Dough sheet = new Dough();
        sheet.temperature = temperature;
        for (String layer : layers.split(" ")) {
            sheet.layers.add(new Layer(layer.charAt(0) == 'B', Integer.parseInt(layer.substring(1))));
        }
        return sheet;
    }

    // ---- joining

    private static List<Layer> putOn(List<Layer> lower, List<Layer> upper, boolean flour) {
        List<Layer> all = new ArrayList<>(lower);
        List<Layer> rest = new ArrayList<>(upper);
        if (!flour && !lower.isEmpty() && !upper.isEmpty() && lower.get(lower.size() - 1).butter() == upper.get(0).butter()) {
            Layer meets = all.remove(all.size() - 1);
            Layer met = rest.remove(0);
            all.add(new Layer(meets.butter(), meets.thick() + met.thick()));
        }
        all.addAll(rest);
        return all;
    }

    private static List<Layer> folded(Dough sheet, int parts) {
        List<Layer> result = new ArrayList<>(sheet.layers);
        for (int copy = 2; copy <= parts; copy++) {
            List<Layer> next = new ArrayList<>(sheet.layers);
            if (copy % 2 == 0) {
                Collections.reverse(next);
            }
            result = putOn(result, next, sheet.dusted);
        }
        return result;
    }

    private static int sum(List<Layer> layers) {
        return layers.stream().mapToInt(Layer::thick).sum();
    }

    private int escapes(Dough sheet, Layer layer) {
        if (!layer.butter() || sheet.sealed || sheet.temperature <= now.melting) {
            return 0;
        }
        return Math.min(layer.thick(), sheet.temperature - now.melting);
    }

    /** Each run of layers that stays together after rolling; the runs meet where butter broke. */
    private List<List<Layer>> rolledRuns(Dough sheet, int factor) {
        List<List<Layer>> runs = new ArrayList<>();
        runs.add(new ArrayList<>());
        for (Layer layer : sheet.layers) {
            int thick = (layer.thick() - escapes(sheet, layer)) / factor;
            if (layer.butter() && thick == 0) {
                runs.add(new ArrayList<>());
            } else {
                runs.get(runs.size() - 1).add(new Layer(layer.butter(), thick == 0 ? 1 : thick));
            }
        }
        return runs;
    }

    private List<Layer> rolled(Dough sheet, int factor) {
        List<Layer> result = new ArrayList<>();
        for (List<Layer> run : rolledRuns(sheet, factor)) {
            result = putOn(result, run, false);
        }
        return result;
    }

    private int oneHour(int temperature, boolean cooling) {
        if (cooling) {
            return temperature < 4 ? temperature : Math.max(4, temperature - 4);
        }
        return temperature + Integer.compare(now.room, temperature);
    }

    // ---- refusals

    private Dough get(int sheet) {
        need(sheet >= 0 && sheet < now.sheets.size(), new IndexOutOfBoundsException());
        return now.sheets.get(sheet);
    }

    private Layer get(int sheet, int layer) {
        List<Layer> layers = get(sheet).layers;
        need(layer >= 0 && layer < layers.size(), new IndexOutOfBoundsException());
        return layers.get(layer);
    }

    private static void need(boolean holds, RuntimeException otherwise) {
        if (!holds) {
            throw otherwise;
        }
    }

    private static void within(int number, int low, int high) {
        need(number >= low && number <= high, new IllegalArgumentException());
    }

    private static void possible(boolean holds) {
        need(holds, new IllegalStateException());
    }

    private void remember() {
        past.addLast(now.copy());
        if (past.size() > 8) {
            past.removeFirst();
        }
    }

    // ---- text input

    public int appendText(int a, int b, int c, int d, int e) {
        if (buffer.length() > 480) {
            return -1;
        }
        StringBuilder text = new StringBuilder(buffer);
        for (int word : new int[] {a, b, c, d, e}) {
            text.append((char) (word >> 24 & 255)).append((char) (word >> 16 & 255));
            text.append((char) (word >> 8 & 255)).append((char) (word & 255));
        }
        buffer = text.toString();
        return buffer.length();
    }

    private List<Token> tokens = new ArrayList<>();

    private void takeText(int length) {
        within(length, 0, buffer.length());
        String text = buffer.substring(0, length);
        buffer = "";
        code = 0;
        offset = -1;
        tokens = new ArrayList<>();
        Matcher matcher = Pattern.compile("[a-z]+|[0-9]+|[^ \n]", Pattern.DOTALL).matcher(text);
        while (matcher.find()) {
            tokens.add(new Token(matcher.group(), matcher.start()));
        }
        tokens.add(new Token("", length));
    }

    private boolean at(String... texts) {
        return List.of(texts).contains(tokens.get(0).text());
    }

    private ParseError error(int kind) {
        return new ParseError(kind, tokens.get(0).offset());
    }

    private String word(String... texts) throws ParseError {
        if (!at(texts)) {
            throw error(1);
        }
        return tokens.remove(0).text();
    }

    private int number(int low, int high) throws ParseError {
        if (!tokens.get(0).text().matches("[0-9]+")) {
            throw error(1);
        }
        java.math.BigInteger value = new java.math.BigInteger(tokens.get(0).text());
        if (value.bitLength() > 30 || value.intValue() < low || value.intValue() > high) {
            throw error(2);
        }
        tokens.remove(0);
        return value.intValue();
    }

    private State parseBench() throws ParseError {
        State state = new State();
        word("bench");
        state.room = number(0, 40);
        state.melting = number(5, 35);
        state.flour = number(0, 50);
        word(";");
        while (!at("")) {
            if (state.sheets.size() == 6 && at("sheet")) {
                throw error(3);
            }
            word("sheet");
            Dough sheet = new Dough();
            sheet.temperature = number(0, 40);
            do {
                if (sheet.layers.size() == 9 && at("dough", "butter")) {
                    throw error(3);
                }
                boolean butter = word("dough", "butter").equals("butter");
                sheet.layers.add(new Layer(butter, number(1, 400)));
            } while (at("dough", "butter") || sheet.layers.size() < 9 && !at(";"));
            word(";");
            state.sheets.add(sheet);
        }
        return state;
    }

    private List<Runnable> parseScript() throws ParseError {
        List<Runnable> commands = new ArrayList<>();
        while (!at("")) {
            String[] known = {"fold", "roll", "dust", "seal", "cool", "takeout", "wait", "cut", "stack"};
            if (commands.size() == 20 && at(known)) {
                throw error(3);
            }
            String name = word(known);
            int first = name.equals("wait") ? number(1, 24) : number(0, 5);
            int second = name.equals("stack") ? number(0, 5) : name.equals("fold") || name.equals("roll") ? number(2, 4) : 0;
            word(";");
            commands.add(() -> execute(name, first, second));
        }
        return commands;
    }

    private void execute(String name, int first, int second) {
        switch (name) {
            case "fold" -> fold(first, second);
            case "roll" -> roll(first, second);
            case "dust" -> dust(first);
            case "seal" -> seal(first);
            case "cool" -> cool(first);
            case "takeout" -> takeOut(first);
            case "wait" -> passHours(first);
            case "cut" -> cut(first);
            default -> stack(first, second);
        }
    }

    private int failed(ParseError error) {
        code = error.code;
        offset = error.offset;
        return -1;
    }

    public int loadBench(int length) {
        takeText(length);
        try {
            now = parseBench();
        } catch (ParseError e) {
            return failed(e);
        }
        past.clear();
        saved = null;
        return now.sheets.size();
    }

    public int errorCode() {
        return code;
    }

    public int errorOffset() {
        return offset;
    }

    // ---- the bench

    public int sheetCount() {
        return now.sheets.size();
    }

    public int roomTemperature() {
        return now.room;
    }

    public int meltingPoint() {
        return now.melting;
    }

    public int flour() {
        return now.flour;
    }

    public int hoursPassed() {
        return now.hours;
    }

    public int escapedButter() {
        return now.escaped;
    }

    public int brokenLayers() {
        return now.broken;
    }

    public int warmestSheet() {
        for (int degrees = 40; degrees >= 0; degrees--) {
            for (int i = 0; i < now.sheets.size(); i++) {
                if (now.sheets.get(i).temperature == degrees) {
                    return i;
                }
            }
        }
        return -1;
    }

    public int finestSheet() {
        for (int count = 200; count > 0; count--) {
            for (int i = 0; i < now.sheets.size(); i++) {
                if (now.sheets.get(i).layers.size() == count) {
                    return i;
                }
            }
        }
        return -1;
    }

    // ---- sheets and layers

    public int layerCount(int sheet) {
        return get(sheet).layers.size();
    }

    public int butterLayerCount(int sheet) {
        return (int) get(sheet).layers.stream().filter(Layer::butter).count();
    }

    public boolean isButter(int sheet, int layer) {
        return get(sheet, layer).butter();
    }

    public int thickness(int sheet, int layer) {
        return get(sheet, layer).thick();
    }

    public int height(int sheet) {
        return sum(get(sheet).layers);
    }

    public int butterHeight(int sheet) {
        return sum(get(sheet).layers.stream().filter(Layer::butter).toList());
    }

    public int thinnestLayer(int sheet) {
        List<Integer> thick = get(sheet).layers.stream().map(Layer::thick).toList();
        return thick.indexOf(Collections.min(thick));
    }

    public int thickestLayer(int sheet) {
        List<Integer> thick = get(sheet).layers.stream().map(Layer::thick).toList();
        return thick.indexOf(Collections.max(thick));
    }

    public int seamCount(int sheet) {
        String kinds = String.join("", get(sheet).layers.stream().map(l -> l.butter() ? "B" : "D").toList());
        int seams = 0;
        for (int i = 0; i + 1 < kinds.length(); i++) {
            seams += kinds.charAt(i) == kinds.charAt(i + 1) ? 1 : 0;
        }
        return seams;
    }

    public boolean isSymmetric(int sheet) {
        List<Layer> turned = new ArrayList<>(get(sheet).layers);
        Collections.reverse(turned);
        return turned.equals(get(sheet).layers);
    }

    public int temperature(int sheet) {
        return get(sheet).temperature;
    }

    public boolean isDusted(int sheet) {
        return get(sheet).dusted;
    }

    public boolean isSealed(int sheet) {
        return get(sheet).sealed;
    }

    public boolean isCooling(int sheet) {
        return get(sheet).cooling;
    }

    public int foldCount(int sheet) {
        return get(sheet).folds;
    }

    public int expectedLayers(int sheet) {
        return layerCount(sheet);
    }

    public float butterShare(int sheet) {
        return (float) butterHeight(sheet) / (float) height(sheet);
    }

    public double meanThickness(int sheet) {
        return (double) height(sheet) / (double) layerCount(sheet);
    }

    // ---- reasons and forecasts

    public int foldObstacle(int sheet, int parts) {
        Dough dough = get(sheet);
        within(parts, 2, 4);
        List<Layer> after = folded(dough, parts);
        return dough.cooling ? 1 : after.size() > 200 ? 2 : sum(after) > 4000 ? 3 : 0;
    }

    public int layersAfterFold(int sheet, int parts) {
        return foldObstacle(sheet, parts) != 0 ? -1 : folded(get(sheet), parts).size();
    }

    public int foldsPossible(int sheet, int parts) {
        State kept = now;
        now = now.copy();
        int folds = 0;
        try {
            while (foldObstacle(sheet, parts) == 0) {
                foldNow(sheet, parts);
                folds++;
            }
        } finally {
            now = kept;
        }
        return folds;
    }

    public int butterAtRisk(int sheet) {
        Dough dough = get(sheet);
        return dough.layers.stream().mapToInt(layer -> escapes(dough, layer)).sum();
    }

    public int layersAtRisk(int sheet, int factor) {
        get(sheet);
        within(factor, 2, 4);
        return rolledRuns(get(sheet), factor).size() - 1;
    }

    public int heightAfterRoll(int sheet, int factor) {
        get(sheet);
        within(factor, 2, 4);
        return sum(rolled(get(sheet), factor));
    }

    public int temperatureAfter(int sheet, int hours) {
        Dough dough = get(sheet);
        within(hours, 0, 24);
        int temperature = dough.temperature;
        for (int i = 0; i < hours; i++) {
            temperature = oneHour(temperature, dough.cooling);
        }
        return temperature;
    }

    public int hoursToSafety(int sheet) {
        int hours = 0;
        for (int t = get(sheet).temperature; t > now.melting; t = oneHour(t, true)) {
            hours++;
        }
        return hours;
    }

    // ---- changes

    private void foldNow(int sheet, int parts) {
        Dough dough = get(sheet);
        dough.layers = folded(dough, parts);
        dough.dusted = false;
        dough.folds++;
        dough.temperature = Math.min(40, dough.temperature + 2);
    }

    public int fold(int sheet, int parts) {
        possible(foldObstacle(sheet, parts) == 0);
        remember();
        foldNow(sheet, parts);
        return layerCount(sheet);
    }

    public int roll(int sheet, int factor) {
        Dough dough = get(sheet);
        within(factor, 2, 4);
        List<Layer> after = rolled(dough, factor);
        possible(!dough.cooling && !after.isEmpty());
        remember();
        now.escaped += butterAtRisk(sheet);
        now.broken += layersAtRisk(sheet, factor);
        dough.layers = after;
        dough.sealed = false;
        dough.temperature = Math.min(40, dough.temperature + 2);
        return after.size();
    }

    public int dust(int sheet) {
        Dough dough = get(sheet);
        possible(!dough.cooling && !dough.dusted && now.flour > 0);
        remember();
        dough.dusted = true;
        return --now.flour;
    }

    public int seal(int sheet) {
        Dough dough = get(sheet);
        possible(!dough.cooling && !dough.sealed);
        remember();
        dough.sealed = true;
        return (int) now.sheets.stream().filter(s -> s.sealed).count();
    }

    private int cooling() {
        return (int) now.sheets.stream().filter(s -> s.cooling).count();
    }

    public int cool(int sheet) {
        Dough dough = get(sheet);
        possible(!dough.cooling && cooling() < 3);
        remember();
        dough.cooling = true;
        return cooling();
    }

    public int takeOut(int sheet) {
        Dough dough = get(sheet);
        possible(dough.cooling);
        remember();
        dough.cooling = false;
        return dough.temperature;
    }

    public int passHours(int hours) {
        within(hours, 1, 24);
        possible(now.hours + hours <= 9999);
        remember();
        now.hours += hours;
        for (int i = 0; i < hours; i++) {
            for (Dough sheet : now.sheets) {
                sheet.temperature = oneHour(sheet.temperature, sheet.cooling);
            }
        }
        return (int) now.sheets.stream().filter(s -> s.temperature > now.melting).count();
    }

    public int cut(int sheet) {
        Dough dough = get(sheet);
        possible(!dough.cooling && now.sheets.size() < 6);
        remember();
        dough.sealed = false;
        now.sheets.add(dough.copy());
        return now.sheets.size() - 1;
    }

    public int stack(int lower, int upper) {
        Dough under = get(lower);
        Dough over = get(upper);
        need(lower != upper, new IllegalArgumentException());
        List<Layer> all = putOn(under.layers, over.layers, under.dusted);
        possible(!under.cooling && !over.cooling && all.size() <= 200 && sum(all) <= 4000);
        remember();
        under.layers = all;
        under.dusted = over.dusted;
        under.sealed = false;
        under.temperature = Math.max(under.temperature, over.temperature);
        under.folds = Math.max(under.folds, over.folds);
        now.sheets.remove(over);
        return all.size();
    }

    public int addButter(int sheet, int thickness) {
        Dough dough = get(sheet);
        within(thickness, 1, 400);
        possible(!dough.cooling && dough.layers.size() != 200 && height(sheet) + thickness <= 4000);
        remember();
        dough.layers = putOn(dough.layers, List.of(new Layer(true, thickness)), dough.dusted);
        dough.sealed = false;
        return dough.layers.size();
    }

    public int buyFlour(int portions) {
        within(portions, 1, 50);
        possible(now.flour + portions <= 999);
        remember();
        now.flour += portions;
        return now.flour;
    }

    public int runScript(int length) {
        takeText(length);
        List<Runnable> commands;
        try {
            commands = parseScript();
        } catch (ParseError e) {
            return failed(e);
        }
        remember();
        List<State> before = new ArrayList<>(past);
        int executed = 0;
        try {
            for (Runnable command : commands) {
                command.run();
                executed++;
            }
        } catch (IndexOutOfBoundsException | IllegalArgumentException | IllegalStateException e) {
            // the script stops here
        }
        past.clear();
        past.addAll(before);
        return executed;
    }

    // ---- output and history

    public int writeSheet(int sheet) {
        List<Layer> turned = new ArrayList<>(get(sheet).layers);
        Collections.reverse(turned);
        output = String.join(" ", turned.stream().map(l -> (l.butter() ? "B" : "D") + l.thick()).toList());
        return output.length();
    }

    public int outputByte(int index) {
        need(index >= 0 && index < output.length(), new IndexOutOfBoundsException());
        return output.charAt(index);
    }

    public int undoableCount() {
        return past.size();
    }

    public int undo() {
        possible(!past.isEmpty());
        now = past.removeLast();
        return past.size();
    }

    public void saveSnapshot() {
        saved = now.copy();
    }

    public int restoreSnapshot() {
        possible(saved != null);
        now = saved.copy();
        past.clear();
        return now.sheets.size();
    }
}
