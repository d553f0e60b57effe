/** A model of a pastry bench on which laminated doughs are folded, rolled and chilled. */
public final class PastryBench {
    private static final int MAX_SHEETS = 6;
    private static final int MAX_LAYERS = 200;
    private static final int MAX_HEIGHT = 4000;
    private static final int MAX_TEMPERATURE = 40;
    private static final int WARMING_BY_WORK = 2;
    private static final int LOWEST_FACTOR = 2;
    private static final int HIGHEST_FACTOR = 4;
    private static final int MAX_NEW_THICKNESS = 400;
    private static final int MAX_HOURS_AT_ONCE = 24;
    private static final int MAX_HOURS = 9999;
    private static final int FRIDGE_PLACES = 3;
    private static final int FRIDGE_TEMPERATURE = 4;
    private static final int FRIDGE_STEP = 4;
    private static final int MAX_PORTIONS = 50;
    private static final int MAX_FLOUR = 999;
    private static final int UNDO_DEPTH = 8;

    private static final int MAX_INPUT = 500;
    private static final int BYTES_PER_APPEND = 20;
    private static final int LOWEST_MELTING = 5;
    private static final int HIGHEST_MELTING = 35;
    private static final int MAX_LOADED_FLOUR = 50;
    private static final int MAX_LOADED_LAYERS = 9;
    private static final int MAX_COMMANDS = 20;
    private static final int NUMBER_CEILING = 1000000;
    private static final int NOT_ALLOWED = 1;
    private static final int OUT_OF_RANGE = 2;
    private static final int TOO_MANY = 3;

    private static final int IN_REFRIGERATOR = 1;
    private static final int TOO_MANY_LAYERS = 2;
    private static final int TOO_HIGH = 3;

    /** A letter, at most four digits and a space. */
    private static final int BYTES_PER_LAYER = 6;
    private static final int LARGEST_SCALE = 1000;

    private static final Command[] COMMANDS = Command.values();

    private final int[] input = new int[MAX_INPUT];
    private int inputLength;
    private final Parser parser = new Parser();
    private final Script script = new Script();
    private final Bench bench = Bench.first();
    private final Bench draft = new Bench();
    private final Bench snapshot = new Bench();
    private boolean snapshotSaved;
    private final History history = new History();
    private final Output output = new Output();

    public PastryBench() {
    }

    // ---- text input

    public int appendText(int a, int b, int c, int d, int e) {
        if (inputLength + BYTES_PER_APPEND > MAX_INPUT) {
            return -1;
        }
        appendWord(a);
        appendWord(b);
        appendWord(c);
        appendWord(d);
        appendWord(e);
        return inputLength;
    }

    public int loadBench(int length) throws IllegalArgumentException {
        requireLength(length);
        boolean read = parser.readBench(input, length, draft);
        inputLength = 0;
        if (!read) {
            return -1;
        }
        bench.copyFrom(draft);
        history.forget();
        snapshotSaved = false;
        return bench.count;
    }

    public int errorCode() {
        return parser.code;
    }

    public int errorOffset() {
        return parser.offset;
    }

    // ---- the bench

    public int sheetCount() {
        return bench.count;
    }

    public int roomTemperature() {
        return bench.room;
    }

    public int meltingPoint() {
        return bench.melting;
    }

    public int flour() {
        return bench.portions;
    }

    public int hoursPassed() {
        return bench.hours;
    }

    public int escapedButter() {
        return bench.escaped;
    }

    public int brokenLayers() {
        return bench.broken;
    }

    public int warmestSheet() {
        return bench.findWarmest();
    }

    public int finestSheet() {
        return bench.findFinest();
    }

    // ---- sheets and layers

    public int layerCount(int sheet) throws IndexOutOfBoundsException {
        return sheetAt(sheet).layers;
    }

    public int butterLayerCount(int sheet) throws IndexOutOfBoundsException {
        return sheetAt(sheet).countButterLayers();
    }

    public boolean isButter(int sheet, int layer) throws IndexOutOfBoundsException {
        Sheet asked = sheetAt(sheet);
        requireLayer(asked, layer);
        return asked.butter[layer];
    }

    public int thickness(int sheet, int layer) throws IndexOutOfBoundsException {
        Sheet asked = sheetAt(sheet);
        requireLayer(asked, layer);
        return asked.thick[layer];
    }

    public int height(int sheet) throws IndexOutOfBoundsException {
        return sheetAt(sheet).totalHeight();
    }

    public int butterHeight(int sheet) throws IndexOutOfBoundsException {
        return sheetAt(sheet).totalButter();
    }

    public int thinnestLayer(int sheet) throws IndexOutOfBoundsException {
        return sheetAt(sheet).findThinnest();
    }

    public int thickestLayer(int sheet) throws IndexOutOfBoundsException {
        return sheetAt(sheet).findThickest();
    }

    public int seamCount(int sheet) throws IndexOutOfBoundsException {
        return sheetAt(sheet).countSeams();
    }

    public boolean isSymmetric(int sheet) throws IndexOutOfBoundsException {
        return sheetAt(sheet).sameFromBothSides();
    }

    public int temperature(int sheet) throws IndexOutOfBoundsException {
        return sheetAt(sheet).warmth;
    }

    public boolean isDusted(int sheet) throws IndexOutOfBoundsException {
        return sheetAt(sheet).dusted;
    }

    public boolean isSealed(int sheet) throws IndexOutOfBoundsException {
        return sheetAt(sheet).sealed;
    }

    public boolean isCooling(int sheet) throws IndexOutOfBoundsException {
        return sheetAt(sheet).cooling;
    }

    public int foldCount(int sheet) throws IndexOutOfBoundsException {
        return sheetAt(sheet).folds;
    }

    public int expectedLayers(int sheet) throws IndexOutOfBoundsException {
        return sheetAt(sheet).expected;
    }

    public float butterShare(int sheet) throws IndexOutOfBoundsException {
        Sheet asked = sheetAt(sheet);
        int whole = asked.totalHeight();
        if (whole == 0) {
            return 0;
        }
        return (float) asked.totalButter() / (float) whole;
    }

    public double meanThickness(int sheet) throws IndexOutOfBoundsException {
        Sheet asked = sheetAt(sheet);
        if (asked.layers == 0) {
            return 0;
        }
        return (double) asked.totalHeight() / (double) asked.layers;
    }

    // ---- reasons and forecasts; these methods change nothing

    public int foldObstacle(int sheet, int parts) throws IndexOutOfBoundsException, IllegalArgumentException {
        Sheet asked = sheetAt(sheet);
        requireFactor(parts);
        return asked.findFoldObstacle(parts);
    }

    public int layersAfterFold(int sheet, int parts) throws IndexOutOfBoundsException, IllegalArgumentException {
        Sheet asked = sheetAt(sheet);
        requireFactor(parts);
        if (asked.findFoldObstacle(parts) != 0) {
            return -1;
        }
        return layersFolded(asked.layers, parts, asked.dusted);
    }

    public int foldsPossible(int sheet, int parts) throws IndexOutOfBoundsException, IllegalArgumentException {
        Sheet asked = sheetAt(sheet);
        requireFactor(parts);
        return asked.countPossibleFolds(parts);
    }

    public int butterAtRisk(int sheet) throws IndexOutOfBoundsException {
        return sheetAt(sheet).sumEscaping(bench.melting);
    }

    public int layersAtRisk(int sheet, int factor) throws IndexOutOfBoundsException, IllegalArgumentException {
        Sheet asked = sheetAt(sheet);
        requireFactor(factor);
        return asked.countBreaking(factor, bench.melting);
    }

    public int heightAfterRoll(int sheet, int factor) throws IndexOutOfBoundsException, IllegalArgumentException {
        Sheet asked = sheetAt(sheet);
        requireFactor(factor);
        return asked.sumRolled(factor, bench.melting);
    }

    public int temperatureAfter(int sheet, int hours) throws IndexOutOfBoundsException, IllegalArgumentException {
        Sheet asked = sheetAt(sheet);
        if (hours < 0 || hours > MAX_HOURS_AT_ONCE) {
            throw new IllegalArgumentException("hours out of range");
        }
        return asked.warmthAfter(hours, bench.room);
    }

    public int hoursToSafety(int sheet) throws IndexOutOfBoundsException {
        return sheetAt(sheet).countHoursToSafety(bench.melting);
    }

    // ---- changes

    public int fold(int sheet, int parts)
            throws IndexOutOfBoundsException, IllegalArgumentException, IllegalStateException {
        throwIfRefused(bench.refusalOfFold(sheet, parts));
        history.remember(bench);
        return bench.applyFold(sheet, parts);
    }

    public int roll(int sheet, int factor)
            throws IndexOutOfBoundsException, IllegalArgumentException, IllegalStateException {
        throwIfRefused(bench.refusalOfRoll(sheet, factor));
        history.remember(bench);
        return bench.applyRoll(sheet, factor);
    }

    public int dust(int sheet) throws IndexOutOfBoundsException, IllegalStateException {
        throwIfRefused(bench.refusalOfDust(sheet));
        history.remember(bench);
        return bench.applyDust(sheet);
    }

    public int seal(int sheet) throws IndexOutOfBoundsException, IllegalStateException {
        throwIfRefused(bench.refusalOfSeal(sheet));
        history.remember(bench);
        return bench.applySeal(sheet);
    }

    public int cool(int sheet) throws IndexOutOfBoundsException, IllegalStateException {
        throwIfRefused(bench.refusalOfCool(sheet));
        history.remember(bench);
        return bench.applyCool(sheet);
    }

    public int takeOut(int sheet) throws IndexOutOfBoundsException, IllegalStateException {
        throwIfRefused(bench.refusalOfTakeOut(sheet));
        history.remember(bench);
        return bench.applyTakeOut(sheet);
    }

    public int passHours(int hours) throws IllegalArgumentException, IllegalStateException {
        throwIfRefused(bench.refusalOfHours(hours));
        history.remember(bench);
        return bench.applyHours(hours);
    }

    public int cut(int sheet) throws IndexOutOfBoundsException, IllegalStateException {
        throwIfRefused(bench.refusalOfCut(sheet));
        history.remember(bench);
        return bench.applyCut(sheet);
    }

    public int stack(int lower, int upper)
            throws IndexOutOfBoundsException, IllegalArgumentException, IllegalStateException {
        throwIfRefused(bench.refusalOfStack(lower, upper));
        history.remember(bench);
        return bench.applyStack(lower, upper);
    }

    public int addButter(int sheet, int thickness)
            throws IndexOutOfBoundsException, IllegalArgumentException, IllegalStateException {
        throwIfRefused(bench.refusalOfButter(sheet, thickness));
        history.remember(bench);
        return bench.applyButter(sheet, thickness);
    }

    public int buyFlour(int portions) throws IllegalArgumentException, IllegalStateException {
        throwIfRefused(bench.refusalOfFlour(portions));
        history.remember(bench);
        return bench.applyFlour(portions);
    }

    public int runScript(int length) throws IllegalArgumentException {
        requireLength(length);
        boolean read = parser.readScript(input, length, script);
        inputLength = 0;
        if (!read) {
            return -1;
        }
        history.remember(bench);
        return script.executeOn(bench);
    }

    // ---- output and history

    public int writeSheet(int sheet) throws IndexOutOfBoundsException {
        output.replaceBy(sheetAt(sheet));
        return output.length;
    }

    public int outputByte(int index) throws IndexOutOfBoundsException {
        if (index < 0 || index >= output.length) {
            throw new IndexOutOfBoundsException("no such byte");
        }
        return output.bytes[index];
    }

    public int undoableCount() {
        return history.count;
    }

    public int undo() throws IllegalStateException {
        if (history.count == 0) {
            throw new IllegalStateException("nothing to undo");
        }
        history.takeBack(bench);
        return history.count;
    }

    public void saveSnapshot() {
        snapshot.copyFrom(bench);
        snapshotSaved = true;
    }

    public int restoreSnapshot() throws IllegalStateException {
        if (!snapshotSaved) {
            throw new IllegalStateException("no snapshot");
        }
        bench.copyFrom(snapshot);
        history.forget();
        return bench.count;
    }

    // ---- helpers of the face

    private void appendWord(int word) {
        for (int shift = 24; shift >= 0 && inputLength < MAX_INPUT; shift -= 8) {
            input[inputLength] = (word >>> shift) & 255;
            inputLength++;
        }
    }

    private void requireLength(int length) {
        if (length < 0 || length > inputLength) {
            throw new IllegalArgumentException("length is not within the input buffer");
        }
    }

    private Sheet sheetAt(int index) {
        if (!bench.hasSheet(index)) {
            throw new IndexOutOfBoundsException("no such sheet");
        }
        return bench.sheets[index];
    }

    private static void requireLayer(Sheet sheet, int layer) {
        if (layer < 0 || layer >= sheet.layers) {
            throw new IndexOutOfBoundsException("no such layer");
        }
    }

    private static void requireFactor(int factor) {
        if (!isFactor(factor)) {
            throw new IllegalArgumentException("parts and factors are 2, 3 or 4");
        }
    }

    private static void throwIfRefused(Refusal refusal) {
        if (refusal == Refusal.NO_SHEET) {
            throw new IndexOutOfBoundsException("no such sheet");
        }
        if (refusal == Refusal.BAD_ARGUMENT) {
            throw new IllegalArgumentException("argument out of range");
        }
        if (refusal == Refusal.BAD_STATE) {
            throw new IllegalStateException("not possible now");
        }
    }

    private static boolean isFactor(int factor) {
        return factor >= LOWEST_FACTOR && factor <= HIGHEST_FACTOR;
    }

    /** The layers that meet in a fold are the same layer twice, so every place without flour is joined. */
    private static int layersFolded(int layers, int parts, boolean dusted) {
        int places = parts - 1;
        return layers * parts - (dusted ? 0 : places);
    }

    private static int warmedByWork(int warmth) {
        return Math.min(MAX_TEMPERATURE, warmth + WARMING_BY_WORK);
    }

    private static int cooledByFridge(int warmth) {
        if (warmth <= FRIDGE_TEMPERATURE) {
            return warmth;
        }
        return Math.max(FRIDGE_TEMPERATURE, warmth - FRIDGE_STEP);
    }

    private static int drawnToRoom(int warmth, int room) {
        if (warmth == room) {
            return warmth;
        }
        return warmth < room ? warmth + 1 : warmth - 1;
    }

    /** Why a change is not made; a script stops where a call of the face throws. */
    private enum Refusal {
        NONE, NO_SHEET, BAD_ARGUMENT, BAD_STATE
    }

    /** The commands of a script, with the ranges that its grammar gives their numbers. */
    private enum Command {
        FOLD("fold", 0, MAX_SHEETS - 1, LOWEST_FACTOR, HIGHEST_FACTOR),
        ROLL("roll", 0, MAX_SHEETS - 1, LOWEST_FACTOR, HIGHEST_FACTOR),
        DUST("dust", 0, MAX_SHEETS - 1),
        SEAL("seal", 0, MAX_SHEETS - 1),
        COOL("cool", 0, MAX_SHEETS - 1),
        TAKE_OUT("takeout", 0, MAX_SHEETS - 1),
        WAIT("wait", 1, MAX_HOURS_AT_ONCE),
        CUT("cut", 0, MAX_SHEETS - 1),
        STACK("stack", 0, MAX_SHEETS - 1, 0, MAX_SHEETS - 1);

        final String word;
        final int firstLow;
        final int firstHigh;
        final boolean hasSecond;
        final int secondLow;
        final int secondHigh;

        Command(String word, int low, int high) {
            this.word = word;
            firstLow = low;
            firstHigh = high;
            hasSecond = false;
            secondLow = 0;
            secondHigh = 0;
        }

        Command(String word, int low, int high, int low2, int high2) {
            this.word = word;
            firstLow = low;
            firstHigh = high;
            hasSecond = true;
            secondLow = low2;
            secondHigh = high2;
        }
    }

    private enum TokenKind {
        WORD, NUMBER, SEMICOLON, INVALID, END
    }

    /** A stack of layers; its rows are made once and used for every sheet that takes this place. */
    private static final class Sheet {
        final int[] thick = new int[MAX_LAYERS];
        final boolean[] butter = new boolean[MAX_LAYERS];
        int layers;
        /** Kept by the rules of counting alone, as the document wants it told without looking at the stack. */
        int expected;
        int folds;
        int warmth;
        boolean dusted;
        boolean sealed;
        boolean cooling;

        void begin(int temperature) {
            layers = 0;
            expected = 0;
            folds = 0;
            warmth = temperature;
            dusted = false;
            sealed = false;
            cooling = false;
        }

        void copyFrom(Sheet other) {
            layers = other.layers;
            for (int i = 0; i < layers; i++) {
                thick[i] = other.thick[i];
                butter[i] = other.butter[i];
            }
            expected = other.expected;
            folds = other.folds;
            warmth = other.warmth;
            dusted = other.dusted;
            sealed = other.sealed;
            cooling = other.cooling;
        }

        void load(boolean ofButter, int thickness) {
            putLayer(ofButter, thickness, true);
            expected++;
        }

        /** Tells whether the new layer was joined with the top one. */
        boolean putLayer(boolean ofButter, int thickness, boolean apart) {
            if (!apart && wouldJoin(ofButter)) {
                thick[layers - 1] += thickness;
                return true;
            }
            if (layers < MAX_LAYERS) {
                thick[layers] = thickness;
                butter[layers] = ofButter;
                layers++;
            }
            return false;
        }

        boolean wouldJoin(boolean ofButter) {
            return layers > 0 && butter[layers - 1] == ofButter;
        }

        int countButterLayers() {
            int found = 0;
            for (int i = 0; i < layers; i++) {
                if (butter[i]) {
                    found++;
                }
            }
            return found;
        }

        int totalHeight() {
            int sum = 0;
            for (int i = 0; i < layers; i++) {
                sum += thick[i];
            }
            return sum;
        }

        int totalButter() {
            int sum = 0;
            for (int i = 0; i < layers; i++) {
                if (butter[i]) {
                    sum += thick[i];
                }
            }
            return sum;
        }

        int findThinnest() {
            int best = 0;
            for (int i = 1; i < layers; i++) {
                if (thick[i] < thick[best]) {
                    best = i;
                }
            }
            return best;
        }

        int findThickest() {
            int best = 0;
            for (int i = 1; i < layers; i++) {
                if (thick[i] > thick[best]) {
                    best = i;
                }
            }
            return best;
        }

        int countSeams() {
            int found = 0;
            for (int i = 1; i < layers; i++) {
                if (butter[i] == butter[i - 1]) {
                    found++;
                }
            }
            return found;
        }

        boolean sameFromBothSides() {
            int high = layers - 1;
            for (int low = 0; low < high; low++) {
                if (butter[low] != butter[high] || thick[low] != thick[high]) {
                    return false;
                }
                high--;
            }
            return true;
        }

        int findFoldObstacle(int parts) {
            if (cooling) {
                return IN_REFRIGERATOR;
            }
            if (layersFolded(layers, parts, dusted) > MAX_LAYERS) {
                return TOO_MANY_LAYERS;
            }
            return totalHeight() * parts > MAX_HEIGHT ? TOO_HIGH : 0;
        }

        int countPossibleFolds(int parts) {
            if (cooling) {
                return 0;
            }
            int count = layersFolded(layers, parts, dusted);
            int high = totalHeight() * parts;
            int possible = 0;
            // Each fold makes the sheet at least twice as high, so the bound is never reached.
            while (count <= MAX_LAYERS && high <= MAX_HEIGHT && possible < MAX_HEIGHT) {
                possible++;
                count = layersFolded(count, parts, false);
                high *= parts;
            }
            return possible;
        }

        void foldUp(int parts) {
            int old = layers;
            // Of the layers below, only the old top one grows while the copies come.
            int top = old > 0 ? thick[old - 1] : 0;
            int joined = 0;
            for (int part = 1; part < parts; part++) {
                boolean upsideDown = part % 2 == 1;
                for (int i = 0; i < old; i++) {
                    int from = upsideDown ? old - 1 - i : i;
                    int thickness = from == old - 1 ? top : thick[from];
                    if (putLayer(butter[from], thickness, i > 0 || dusted)) {
                        joined++;
                    }
                }
            }
            expected = expected * parts - joined;
            folds++;
            dusted = false;
            warmth = warmedByWork(warmth);
        }

        /** What every butter layer loses in rolling, if it is thick enough. */
        int lossPerLayer(int melting) {
            return sealed ? 0 : Math.max(0, warmth - melting);
        }

        int sumEscaping(int melting) {
            int loss = lossPerLayer(melting);
            int sum = 0;
            for (int i = 0; i < layers; i++) {
                if (butter[i]) {
                    sum += Math.min(loss, thick[i]);
                }
            }
            return sum;
        }

        /** Answers 0 for a butter layer that breaks, and for nothing else. */
        int thicknessRolled(int layer, int factor, int loss) {
            if (factor < LOWEST_FACTOR) {
                return thick[layer];
            }
            if (butter[layer]) {
                return Math.max(0, thick[layer] - loss) / factor;
            }
            return Math.max(1, thick[layer] / factor);
        }

        int countBreaking(int factor, int melting) {
            int loss = lossPerLayer(melting);
            int found = 0;
            for (int i = 0; i < layers; i++) {
                if (thicknessRolled(i, factor, loss) == 0) {
                    found++;
                }
            }
            return found;
        }

        int sumRolled(int factor, int melting) {
            int loss = lossPerLayer(melting);
            int sum = 0;
            for (int i = 0; i < layers; i++) {
                sum += thicknessRolled(i, factor, loss);
            }
            return sum;
        }

        /** Answers how many butter layers broke. */
        int rollOut(int factor, int melting) {
            int loss = lossPerLayer(melting);
            int old = layers;
            int breaks = 0;
            int joined = 0;
            boolean gap = false;
            // The layers that stay are put into the same rows, never ahead of the one that is read.
            layers = 0;
            for (int i = 0; i < old; i++) {
                int thickness = thicknessRolled(i, factor, loss);
                if (thickness == 0) {
                    breaks++;
                    gap = true;
                } else {
                    if (putLayer(butter[i], thickness, !gap)) {
                        joined++;
                    }
                    gap = false;
                }
            }
            expected -= breaks + joined;
            sealed = false;
            warmth = warmedByWork(warmth);
            return breaks;
        }

        int warmthAfter(int hours, int room) {
            int later = warmth;
            for (int i = 0; i < hours; i++) {
                later = cooling ? cooledByFridge(later) : drawnToRoom(later, room);
            }
            return later;
        }

        int countHoursToSafety(int melting) {
            int later = warmth;
            int hours = 0;
            while (later > melting && hours < MAX_TEMPERATURE) {
                later = cooledByFridge(later);
                hours++;
            }
            return hours;
        }

        /** Tells whether the bottom layer of the other sheet is joined with the top one of this sheet. */
        boolean joinsWith(Sheet other) {
            return !dusted && other.layers > 0 && wouldJoin(other.butter[0]);
        }

        int layersWith(Sheet other) {
            return layers + other.layers - (joinsWith(other) ? 1 : 0);
        }

        void carry(Sheet other) {
            int joined = 0;
            for (int i = 0; i < other.layers; i++) {
                if (putLayer(other.butter[i], other.thick[i], i > 0 || dusted)) {
                    joined++;
                }
            }
            expected += other.expected - joined;
            folds = Math.max(folds, other.folds);
            warmth = Math.max(warmth, other.warmth);
            dusted = other.dusted;
            sealed = false;
        }

        void butterTop(int thickness) {
            boolean joined = putLayer(true, thickness, dusted);
            expected += joined ? 0 : 1;
            sealed = false;
        }
    }

    /** All that a change can change, so that a copy of it is enough to undo one. */
    private static final class Bench {
        final Sheet[] sheets = new Sheet[MAX_SHEETS];
        int count;
        int room;
        int melting;
        int portions;
        int hours;
        int escaped;
        int broken;

        Bench() {
            for (int i = 0; i < MAX_SHEETS; i++) {
                sheets[i] = new Sheet();
            }
        }

        static Bench first() {
            Bench bench = new Bench();
            bench.begin(22, 18, 5);
            bench.addSheet(10);
            bench.addLayer(false, 60);
            bench.addLayer(true, 40);
            bench.addLayer(false, 60);
            bench.addSheet(20);
            bench.addLayer(false, 30);
            bench.addLayer(true, 9);
            bench.addLayer(false, 25);
            bench.addLayer(true, 3);
            bench.addLayer(false, 30);
            return bench;
        }

        void begin(int roomTemperature, int meltingPoint, int flour) {
            count = 0;
            room = roomTemperature;
            melting = meltingPoint;
            portions = flour;
            hours = 0;
            escaped = 0;
            broken = 0;
        }

        void addSheet(int temperature) {
            if (count < MAX_SHEETS) {
                sheets[count].begin(temperature);
                count++;
            }
        }

        /** Loads a layer onto the latest sheet. */
        void addLayer(boolean ofButter, int thickness) {
            if (count > 0) {
                sheets[count - 1].load(ofButter, thickness);
            }
        }

        void copyFrom(Bench other) {
            count = other.count;
            for (int i = 0; i < count; i++) {
                sheets[i].copyFrom(other.sheets[i]);
            }
            room = other.room;
            melting = other.melting;
            portions = other.portions;
            hours = other.hours;
            escaped = other.escaped;
            broken = other.broken;
        }

        boolean hasSheet(int index) {
            return index >= 0 && index < count;
        }

        int findWarmest() {
            int best = -1;
            for (int i = 0; i < count; i++) {
                if (best < 0 || sheets[i].warmth > sheets[best].warmth) {
                    best = i;
                }
            }
            return best;
        }

        int findFinest() {
            int best = -1;
            for (int i = 0; i < count; i++) {
                if (best < 0 || sheets[i].layers > sheets[best].layers) {
                    best = i;
                }
            }
            return best;
        }

        int countSealed() {
            int found = 0;
            for (int i = 0; i < count; i++) {
                if (sheets[i].sealed) {
                    found++;
                }
            }
            return found;
        }

        int countCooling() {
            int found = 0;
            for (int i = 0; i < count; i++) {
                if (sheets[i].cooling) {
                    found++;
                }
            }
            return found;
        }

        int countUnsafe() {
            int found = 0;
            for (int i = 0; i < count; i++) {
                if (sheets[i].warmth > melting) {
                    found++;
                }
            }
            return found;
        }

        static Refusal stateRefusal(boolean refused) {
            return refused ? Refusal.BAD_STATE : Refusal.NONE;
        }

        Refusal refusalOfFold(int sheet, int parts) {
            if (!hasSheet(sheet)) {
                return Refusal.NO_SHEET;
            }
            if (!isFactor(parts)) {
                return Refusal.BAD_ARGUMENT;
            }
            return stateRefusal(sheets[sheet].findFoldObstacle(parts) != 0);
        }

        int applyFold(int sheet, int parts) {
            sheets[sheet].foldUp(parts);
            return sheets[sheet].layers;
        }

        Refusal refusalOfRoll(int sheet, int factor) {
            if (!hasSheet(sheet)) {
                return Refusal.NO_SHEET;
            }
            if (!isFactor(factor)) {
                return Refusal.BAD_ARGUMENT;
            }
            return stateRefusal(sheets[sheet].cooling || sheets[sheet].sumRolled(factor, melting) == 0);
        }

        int applyRoll(int sheet, int factor) {
            escaped += sheets[sheet].sumEscaping(melting);
            broken += sheets[sheet].rollOut(factor, melting);
            return sheets[sheet].layers;
        }

        Refusal refusalOfDust(int sheet) {
            if (!hasSheet(sheet)) {
                return Refusal.NO_SHEET;
            }
            return stateRefusal(sheets[sheet].cooling || sheets[sheet].dusted || portions < 1);
        }

        int applyDust(int sheet) {
            sheets[sheet].dusted = true;
            portions--;
            return portions;
        }

        Refusal refusalOfSeal(int sheet) {
            if (!hasSheet(sheet)) {
                return Refusal.NO_SHEET;
            }
            return stateRefusal(sheets[sheet].cooling || sheets[sheet].sealed);
        }

        int applySeal(int sheet) {
            sheets[sheet].sealed = true;
            return countSealed();
        }

        Refusal refusalOfCool(int sheet) {
            if (!hasSheet(sheet)) {
                return Refusal.NO_SHEET;
            }
            return stateRefusal(sheets[sheet].cooling || countCooling() >= FRIDGE_PLACES);
        }

        int applyCool(int sheet) {
            sheets[sheet].cooling = true;
            return countCooling();
        }

        Refusal refusalOfTakeOut(int sheet) {
            if (!hasSheet(sheet)) {
                return Refusal.NO_SHEET;
            }
            return stateRefusal(!sheets[sheet].cooling);
        }

        int applyTakeOut(int sheet) {
            sheets[sheet].cooling = false;
            return sheets[sheet].warmth;
        }

        Refusal refusalOfHours(int more) {
            if (more < 1 || more > MAX_HOURS_AT_ONCE) {
                return Refusal.BAD_ARGUMENT;
            }
            return stateRefusal(hours + more > MAX_HOURS);
        }

        int applyHours(int more) {
            for (int i = 0; i < count; i++) {
                sheets[i].warmth = sheets[i].warmthAfter(more, room);
            }
            hours += more;
            return countUnsafe();
        }

        Refusal refusalOfCut(int sheet) {
            if (!hasSheet(sheet)) {
                return Refusal.NO_SHEET;
            }
            return stateRefusal(sheets[sheet].cooling || count >= MAX_SHEETS);
        }

        int applyCut(int sheet) {
            Sheet old = sheets[sheet];
            old.sealed = false;
            if (count < MAX_SHEETS) {
                sheets[count].copyFrom(old);
                count++;
            }
            return count - 1;
        }

        Refusal refusalOfStack(int lower, int upper) {
            if (!hasSheet(lower) || !hasSheet(upper)) {
                return Refusal.NO_SHEET;
            }
            if (lower == upper) {
                return Refusal.BAD_ARGUMENT;
            }
            Sheet under = sheets[lower];
            Sheet over = sheets[upper];
            boolean tooMany = under.layersWith(over) > MAX_LAYERS;
            boolean tooHigh = under.totalHeight() + over.totalHeight() > MAX_HEIGHT;
            return stateRefusal(under.cooling || over.cooling || tooMany || tooHigh);
        }

        int applyStack(int lower, int upper) {
            Sheet under = sheets[lower];
            under.carry(sheets[upper]);
            removeSheet(upper);
            return under.layers;
        }

        /** The rows of the sheet that goes are kept behind the others, for the next sheet that comes. */
        void removeSheet(int index) {
            Sheet gone = sheets[index];
            for (int i = index + 1; i < count; i++) {
                sheets[i - 1] = sheets[i];
            }
            count--;
            sheets[count] = gone;
        }

        Refusal refusalOfButter(int sheet, int thickness) {
            if (!hasSheet(sheet)) {
                return Refusal.NO_SHEET;
            }
            if (thickness < 1 || thickness > MAX_NEW_THICKNESS) {
                return Refusal.BAD_ARGUMENT;
            }
            Sheet under = sheets[sheet];
            boolean full = under.layers >= MAX_LAYERS;
            return stateRefusal(under.cooling || full || under.totalHeight() + thickness > MAX_HEIGHT);
        }

        int applyButter(int sheet, int thickness) {
            sheets[sheet].butterTop(thickness);
            return sheets[sheet].layers;
        }

        Refusal refusalOfFlour(int bought) {
            if (bought < 1 || bought > MAX_PORTIONS) {
                return Refusal.BAD_ARGUMENT;
            }
            return stateRefusal(portions + bought > MAX_FLOUR);
        }

        int applyFlour(int bought) {
            portions += bought;
            return portions;
        }
    }

    /** The benches before the latest changes, the oldest one first. */
    private static final class History {
        final Bench[] benches = new Bench[UNDO_DEPTH];
        int count;

        History() {
            for (int i = 0; i < UNDO_DEPTH; i++) {
                benches[i] = new Bench();
            }
        }

        void forget() {
            count = 0;
        }

        void remember(Bench bench) {
            if (count >= UNDO_DEPTH) {
                dropOldest();
            }
            benches[count].copyFrom(bench);
            count++;
        }

        void dropOldest() {
            Bench oldest = benches[0];
            for (int i = 1; i < UNDO_DEPTH; i++) {
                benches[i - 1] = benches[i];
            }
            benches[UNDO_DEPTH - 1] = oldest;
            count = UNDO_DEPTH - 1;
        }

        void takeBack(Bench bench) {
            if (count > 0) {
                count--;
                bench.copyFrom(benches[count]);
            }
        }
    }

    /** The tokens of a text, one at a time. */
    private static final class Tokens {
        int[] text = new int[0];
        int length;
        int next;
        TokenKind kind = TokenKind.END;
        int start;
        int value;

        void begin(int[] source, int sourceLength) {
            text = source;
            length = Math.min(sourceLength, source.length);
            next = 0;
            advance();
        }

        void advance() {
            while (next < length && isSeparator(text[next])) {
                next++;
            }
            start = next;
            if (next >= length) {
                kind = TokenKind.END;
                return;
            }
            int sign = text[next];
            next++;
            if (isLetter(sign)) {
                kind = TokenKind.WORD;
                while (next < length && isLetter(text[next])) {
                    next++;
                }
            } else if (isDigit(sign)) {
                kind = TokenKind.NUMBER;
                value = sign - '0';
                while (next < length && isDigit(text[next])) {
                    // A number has any length, so its value stops growing far above every range.
                    value = Math.min(NUMBER_CEILING, value * 10 + text[next] - '0');
                    next++;
                }
            } else {
                kind = sign == ';' ? TokenKind.SEMICOLON : TokenKind.INVALID;
            }
        }

        boolean isWord(String word) {
            if (kind != TokenKind.WORD || next - start != word.length()) {
                return false;
            }
            for (int i = 0; i < word.length(); i++) {
                if (text[start + i] != word.charAt(i)) {
                    return false;
                }
            }
            return true;
        }

        static boolean isSeparator(int sign) {
            return sign == ' ' || sign == '\n';
        }

        static boolean isLetter(int sign) {
            return sign >= 'a' && sign <= 'z';
        }

        static boolean isDigit(int sign) {
            return sign >= '0' && sign <= '9';
        }
    }

    /** Reads both grammars and keeps the error of the latest text. */
    private static final class Parser {
        final Tokens tokens = new Tokens();
        int code;
        int offset = -1;
        /** The number that takeNumber took last. */
        int number;

        void begin(int[] text, int length) {
            code = 0;
            offset = -1;
            tokens.begin(text, length);
        }

        boolean fail(int errorKind) {
            code = errorKind;
            offset = tokens.start;
            return false;
        }

        boolean takeWord(String word) {
            if (!tokens.isWord(word)) {
                return fail(NOT_ALLOWED);
            }
            tokens.advance();
            return true;
        }

        boolean takeSemicolon() {
            if (tokens.kind != TokenKind.SEMICOLON) {
                return fail(NOT_ALLOWED);
            }
            tokens.advance();
            return true;
        }

        boolean takeNumber(int low, int high) {
            if (tokens.kind != TokenKind.NUMBER) {
                return fail(NOT_ALLOWED);
            }
            if (tokens.value < low || tokens.value > high) {
                return fail(OUT_OF_RANGE);
            }
            number = tokens.value;
            tokens.advance();
            return true;
        }

        boolean readBench(int[] text, int length, Bench target) {
            begin(text, length);
            if (!readHeader(target)) {
                return false;
            }
            for (int i = 0; i < MAX_SHEETS && tokens.kind != TokenKind.END; i++) {
                if (!readSheet(target)) {
                    return false;
                }
            }
            if (tokens.kind == TokenKind.END) {
                return true;
            }
            return fail(tokens.isWord("sheet") ? TOO_MANY : NOT_ALLOWED);
        }

        boolean readHeader(Bench target) {
            if (!takeWord("bench") || !takeNumber(0, MAX_TEMPERATURE)) {
                return false;
            }
            int room = number;
            if (!takeNumber(LOWEST_MELTING, HIGHEST_MELTING)) {
                return false;
            }
            int melting = number;
            if (!takeNumber(0, MAX_LOADED_FLOUR)) {
                return false;
            }
            target.begin(room, melting, number);
            return takeSemicolon();
        }

        boolean readSheet(Bench target) {
            if (!takeWord("sheet") || !takeNumber(0, MAX_TEMPERATURE)) {
                return false;
            }
            target.addSheet(number);
            if (!readLayer(target)) {
                return false;
            }
            for (int i = 1; i < MAX_LOADED_LAYERS && tokens.kind != TokenKind.SEMICOLON; i++) {
                if (!readLayer(target)) {
                    return false;
                }
            }
            if (isLayerWord()) {
                return fail(TOO_MANY);
            }
            return takeSemicolon();
        }

        boolean isLayerWord() {
            return tokens.isWord("dough") || tokens.isWord("butter");
        }

        boolean readLayer(Bench target) {
            if (!isLayerWord()) {
                return fail(NOT_ALLOWED);
            }
            boolean ofButter = tokens.isWord("butter");
            tokens.advance();
            if (!takeNumber(1, MAX_NEW_THICKNESS)) {
                return false;
            }
            target.addLayer(ofButter, number);
            return true;
        }

        boolean readScript(int[] text, int length, Script target) {
            begin(text, length);
            target.count = 0;
            for (int i = 0; i < MAX_COMMANDS && tokens.kind != TokenKind.END; i++) {
                if (!readCommand(target)) {
                    return false;
                }
            }
            if (tokens.kind == TokenKind.END) {
                return true;
            }
            return fail(findCommand() >= 0 ? TOO_MANY : NOT_ALLOWED);
        }

        int findCommand() {
            for (int i = 0; i < COMMANDS.length; i++) {
                if (tokens.isWord(COMMANDS[i].word)) {
                    return i;
                }
            }
            return -1;
        }

        boolean readCommand(Script target) {
            int found = findCommand();
            if (found < 0) {
                return fail(NOT_ALLOWED);
            }
            Command command = COMMANDS[found];
            tokens.advance();
            if (!takeNumber(command.firstLow, command.firstHigh)) {
                return false;
            }
            int first = number;
            int second = 0;
            if (command.hasSecond) {
                if (!takeNumber(command.secondLow, command.secondHigh)) {
                    return false;
                }
                second = number;
            }
            target.add(command, first, second);
            return takeSemicolon();
        }
    }

    /** The commands of the latest script that was read. */
    private static final class Script {
        final Command[] commands = new Command[MAX_COMMANDS];
        final int[] firsts = new int[MAX_COMMANDS];
        final int[] seconds = new int[MAX_COMMANDS];
        int count;

        void add(Command command, int first, int second) {
            if (count < MAX_COMMANDS) {
                commands[count] = command;
                firsts[count] = first;
                seconds[count] = second;
                count++;
            }
        }

        /** Answers how many commands were executed. */
        int executeOn(Bench bench) {
            for (int i = 0; i < count; i++) {
                if (refusalOf(bench, commands[i], firsts[i], seconds[i]) != Refusal.NONE) {
                    return i;
                }
                execute(bench, commands[i], firsts[i], seconds[i]);
            }
            return count;
        }

        static Refusal refusalOf(Bench bench, Command command, int first, int second) {
            if (command == null) {
                return Refusal.BAD_ARGUMENT;
            }
            switch (command) {
                case FOLD:
                    return bench.refusalOfFold(first, second);
                case ROLL:
                    return bench.refusalOfRoll(first, second);
                case DUST:
                    return bench.refusalOfDust(first);
                case SEAL:
                    return bench.refusalOfSeal(first);
                case COOL:
                    return bench.refusalOfCool(first);
                case TAKE_OUT:
                    return bench.refusalOfTakeOut(first);
                case WAIT:
                    return bench.refusalOfHours(first);
                case CUT:
                    return bench.refusalOfCut(first);
                default:
                    return bench.refusalOfStack(first, second);
            }
        }

        static int execute(Bench bench, Command command, int first, int second) {
            if (command == null) {
                return 0;
            }
            switch (command) {
                case FOLD:
                    return bench.applyFold(first, second);
                case ROLL:
                    return bench.applyRoll(first, second);
                case DUST:
                    return bench.applyDust(first);
                case SEAL:
                    return bench.applySeal(first);
                case COOL:
                    return bench.applyCool(first);
                case TAKE_OUT:
                    return bench.applyTakeOut(first);
                case WAIT:
                    return bench.applyHours(first);
                case CUT:
                    return bench.applyCut(first);
                default:
                    return bench.applyStack(first, second);
            }
        }
    }

    /** The text that writeSheet wrote last. */
    private static final class Output {
        final int[] bytes = new int[MAX_LAYERS * BYTES_PER_LAYER];
        int length;

        void put(int sign) {
            if (length < bytes.length) {
                bytes[length] = sign;
                length++;
            }
        }

        void putNumber(int number) {
            for (int scale = LARGEST_SCALE; scale > 0; scale /= 10) {
                if (number >= scale) {
                    put('0' + number / scale % 10);
                }
            }
        }

        void replaceBy(Sheet sheet) {
            length = 0;
            for (int i = sheet.layers - 1; i >= 0; i--) {
                put(sheet.butter[i] ? 'B' : 'D');
                putNumber(sheet.thick[i]);
                if (i > 0) {
                    put(' ');
                }
            }
        }
    }
}
