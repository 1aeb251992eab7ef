import java.util.Arrays;

/** A raw picture made ready by stages that are told as a text; DOC.md says what each call promises. */
public final class RawPictures {
    public static final int NONE = -1;

    private static final int NOT_THERE = -2;
    private static final int OTHER_STAGE = -3;
    private static final int NOTHING_TO_GO_BY = -4;

    private static final int RED = 0;
    private static final int GREEN = 1;
    private static final int BLUE = 2;

    /** A square's number is 16 Y + X whatever W is, since that is how the answers tell squares. */
    private static final int SIDE = 16;
    private static final int AREA = 256;
    private static final int TOP = 4095;
    private static final int LAST_VALUE = 255;

    private static final int TAPE_ROOM = 140;
    private static final int FED_INTS = 5;
    private static final int LONGEST_TEXT = 120;
    private static final int MOST_STAGES = 12;
    /** A text of 120 bytes has no more numbers than half of its bytes. */
    private static final int MOST_NUMBERS = 64;

    /** The stages' letters: those ahead of f, f, those behind it; t, which has points, is last. */
    private static final String LETTERS = "bdolfvwhygmpnst";
    private static final int KIND_OF_F = 4;
    private static final int KIND_OF_T = 14;
    private static final int[] HOW_MANY_NUMBERS = {1, 1, 1, 1, 1, 1, 1, 1, 3, 3, 1, 2, 2, 2, 0};
    private static final int[] LEAST_FIRST = {0, 0, 1, 0, 0, 1, 0, 0, 0, 0, 0, 1, 0, 0, 0};
    private static final int[] GREATEST_FIRST = {255, 255, 4, 99, 1, 3, 255, 254, 32, 99, 99, 4, 99, 99, 0};
    private static final int[] GREATEST_LATER = {0, 0, 0, 0, 0, 0, 0, 0, 32, 99, 0, 32, 99, 99, 255};
    private static final String LETTERS_WITH_A_BEST = "bdlwhmyns";
    private static final int LAST_TRIED = 8;
    private static final int FALSE_FOR_BEST = 256;

    private final Tape tape;
    private final Mosaic mosaic;
    private final Truth known;
    private final Recipe recipe;
    private final Reader reader;
    private final Darkroom room;
    private final Meter meter;
    private final Clumps clumps;
    private final Mosaic keptMosaic;
    private final Recipe keptRecipe;
    private int keptChance;
    private boolean isKept;
    /** The document's X of scene 4: THE SEED at first. */
    private int chance;

    public RawPictures() {
        tape = new Tape();
        mosaic = new Mosaic();
        known = new Truth();
        recipe = new Recipe();
        reader = new Reader(tape);
        room = new Darkroom(mosaic, recipe);
        meter = new Meter(mosaic);
        clumps = new Clumps(mosaic);
        keptMosaic = new Mosaic();
        keptRecipe = new Recipe();
        keptChance = 1;
        isKept = false;
        chance = 1;
    }

    public int feed(int a, int b, int c, int d, int e) {
        if (tape.size + 4 * FED_INTS > TAPE_ROOM) {
            return NONE;
        }
        tape.append(a);
        tape.append(b);
        tape.append(c);
        tape.append(d);
        tape.append(e);
        return tape.size;
    }

    public int stages(int n) {
        if (n < 0 || n > LONGEST_TEXT || n > tape.size) {
            return NONE;
        }
        int answer = reader.read(n);
        tape.empty();
        if (answer >= 0) {
            recipe.copyFrom(reader.draft);
            room.forget();
        }
        return answer;
    }

    public boolean raw(int w, int h, int phase) {
        if (!isSide(w) || !isSide(h) || !isWithin(phase, 3)) {
            return false;
        }
        mosaic.begin(w, h, phase);
        rawChanged();
        return true;
    }

    public boolean row(int y) {
        if (y < 0 || y >= mosaic.h || tape.size < mosaic.w) {
            return false;
        }
        for (int x = 0; x < mosaic.w; x++) {
            mosaic.value[y * SIDE + x] = tape.byteAt(x);
        }
        tape.empty();
        rawChanged();
        return true;
    }

    public boolean pixel(int x, int y, int v) {
        if (!mosaic.has(x, y) || !isWithin(v, LAST_VALUE)) {
            return false;
        }
        mosaic.value[y * SIDE + x] = v;
        rawChanged();
        return true;
    }

    public int dead(int x, int y, boolean is) {
        if (!mosaic.has(x, y)) {
            return NONE;
        }
        mosaic.dead[y * SIDE + x] = is ? 1 : 0;
        rawChanged();
        return mosaic.sumOf(mosaic.dead);
    }

    public boolean scene(int kind, int a, int b) {
        if (!isWithin(kind, 6) || !isWithin(a, LAST_VALUE) || !isWithin(b, LAST_VALUE)) {
            return false;
        }
        for (int y = 0; y < mosaic.h; y++) {
            for (int x = 0; x < mosaic.w; x++) {
                mosaic.value[y * SIDE + x] = kind == 4 ? drawn(a, b) : mosaic.laid(kind, a, b, x, y);
            }
        }
        mosaic.wake();
        rawChanged();
        return true;
    }

    public boolean truth(int kind) {
        if (!isWithin(kind, 5) || tape.size < 6) {
            return false;
        }
        known.lay(kind, tape, mosaic);
        tape.empty();
        for (int y = 0; y < mosaic.h; y++) {
            for (int x = 0; x < mosaic.w; x++) {
                int square = y * SIDE + x;
                mosaic.value[square] = known.value[mosaic.colourOf(x, y) * AREA + square];
            }
        }
        mosaic.wake();
        rawChanged();
        known.isThere = true;
        return true;
    }

    public int rawIs(int what) {
        switch (what) {
            case 0:
                return mosaic.w;
            case 1:
                return mosaic.h;
            case 2:
                return mosaic.phase;
            case 3:
                return mosaic.sumOf(mosaic.dead);
            case 4:
                return mosaic.sumOf(mosaic.value);
            case 5:
            case 6:
            case 7:
                return mosaic.squaresOf(what - 5);
            default:
                return NONE;
        }
    }

    public int colour(int x, int y) {
        return mosaic.has(x, y) ? mosaic.colourOf(x, y) : NONE;
    }

    public int stage(int k, int what) {
        if (!recipe.has(k) || !isWithin(what, 4)) {
            return NONE;
        }
        if (what == 0) {
            return recipe.letterOf(k);
        }
        if (what == 4) {
            return recipe.numbersOf(k);
        }
        return what <= recipe.numbersOf(k) ? recipe.numberOf(k, what - 1) : NOT_THERE;
    }

    public int left(int k, int x, int y, int colour) {
        if (!recipe.leaves(k) || !mosaic.has(x, y) || !isWithin(colour, BLUE)) {
            return NONE;
        }
        Sheet sheet = room.sheetOf(k);
        return sheet.tells(mosaic, x, y, colour) ? sheet.levelAt(y * SIDE + x, colour) : NOT_THERE;
    }

    public int found(int k, int what) {
        if (!recipe.has(k) || !isWithin(what, 3)) {
            return NONE;
        }
        if (recipe.letterOf(k) != 'd') {
            return OTHER_STAGE;
        }
        markFound(k);
        if (what == 2) {
            return clumps.firstMarked();
        }
        if (what == 3) {
            return clumps.lastMarked();
        }
        return what == 0 ? clumps.marked() : clumps.markedAnd(mosaic.dead);
    }

    public int groups(int k, int what) {
        if (!recipe.has(k) || !isWithin(what, 1)) {
            return NONE;
        }
        if (recipe.letterOf(k) != 'd') {
            return OTHER_STAGE;
        }
        markFound(k);
        clumps.gather(true);
        return what == 0 ? clumps.howMany : clumps.largest;
    }

    public int dark(int k, int y) {
        if (!recipe.has(k) || y < 0 || y >= mosaic.h) {
            return NONE;
        }
        if (recipe.letterOf(k) != 'o') {
            return OTHER_STAGE;
        }
        return room.early.darkOf(room.sheetOf(k - 1), y, recipe.numberOf(k, 0));
    }

    public int middle(int k, int x, int y) {
        if (!recipe.has(k) || !mosaic.has(x, y)) {
            return NONE;
        }
        if (recipe.letterOf(k) != 'd') {
            return OTHER_STAGE;
        }
        return room.early.middleOf(room.sheetOf(k - 1), x, y);
    }

    public int way(int x, int y) {
        if (!mosaic.has(x, y)) {
            return NONE;
        }
        if (mosaic.colourOf(x, y) == GREEN) {
            return NOT_THERE;
        }
        if (!recipe.fillsAlongEdges()) {
            return OTHER_STAGE;
        }
        return room.early.wayOf(room.sheetOf(recipe.fAt - 1), x, y);
    }

    public int ways(int what) {
        if (!isWithin(what, 2)) {
            return NONE;
        }
        if (!recipe.fillsAlongEdges()) {
            return OTHER_STAGE;
        }
        Sheet sheet = room.sheetOf(recipe.fAt - 1);
        int many = 0;
        for (int y = 0; y < mosaic.h; y++) {
            for (int x = 0; x < mosaic.w; x++) {
                if (mosaic.colourOf(x, y) != GREEN && room.early.wayOf(sheet, x, y) == what) {
                    many++;
                }
            }
        }
        return many;
    }

    public int white(int k, int what) {
        if (!recipe.has(k) || !isWithin(what, 2)) {
            return NONE;
        }
        if (recipe.letterOf(k) != 'w') {
            return OTHER_STAGE;
        }
        room.late.findWhite(room.sheetOf(k - 1), recipe.numberOf(k, 0));
        if (what == 2) {
            return room.late.greys;
        }
        return what == 0 ? room.late.gainOfRed : room.late.gainOfBlue;
    }

    public int base(int k, int x, int y) {
        if (!recipe.has(k) || !mosaic.has(x, y)) {
            return NONE;
        }
        if (recipe.letterOf(k) != 'p') {
            return OTHER_STAGE;
        }
        room.late.findBases(room.sheetOf(k - 1), recipe.numberOf(k, 0));
        return room.late.plane[y * SIDE + x];
    }

    public int tone(int k, int floor, int x, int y) {
        if (!recipe.has(k) || !isWithin(floor, 4) || !mosaic.has(x, y)) {
            return NONE;
        }
        if (recipe.letterOf(k) != 'y') {
            return OTHER_STAGE;
        }
        room.late.buildFloors(room.sheetOf(k - 1));
        if (floor == 4) {
            return room.late.toneOf(x, y, recipe.numberOf(k, 0), recipe.numberOf(k, 1), recipe.numberOf(k, 2));
        }
        return room.late.floorOf(floor, x, y);
    }

    public int levels(int k, int colour, int what) {
        boolean isBand = what >= 10 && what <= 25;
        if (!isLeftOf(k, colour) || !(isWithin(what, 5) || isBand)) {
            return NONE;
        }
        meter.gather(room.sheetOf(k), colour);
        switch (what) {
            case 0:
                return meter.least();
            case 1:
                return meter.greatest();
            case 2:
                return meter.together();
            case 3:
                return meter.unlikeOnes();
            case 4:
                return meter.between(TOP, TOP);
            case 5:
                return meter.between(0, 0);
            default:
                return meter.between((what - 10) * 256, (what - 10) * 256 + 255);
        }
    }

    public int noise(int k, int colour, int b, int what) {
        if (!isLeftOf(k, colour) || !isWithin(b, 4) || !isWithin(what, 2)) {
            return NONE;
        }
        if (!recipe.isBehindF(k)) {
            return OTHER_STAGE;
        }
        meter.findNoise(room.sheetOf(k), colour, b);
        if (what == 2) {
            return meter.greatestDetail;
        }
        return what == 0 ? meter.noisyOnes : meter.allDetails;
    }

    public int percent(int k, int colour, int p) {
        if (!isLeftOf(k, colour) || p < 1 || p > 100) {
            return NONE;
        }
        meter.gather(room.sheetOf(k), colour);
        return meter.percentile(p);
    }

    public int bits(int k, int colour) {
        if (!isLeftOf(k, colour)) {
            return NONE;
        }
        meter.gather(room.sheetOf(k), colour);
        return meter.bitsOfAll();
    }

    public int ring(int k, int colour, int i, int what) {
        if (!isLeftOf(k, colour) || !isWithin(i, 3) || !isWithin(what, 1)) {
            return NONE;
        }
        meter.gatherRing(room.sheetOf(k), colour, i);
        if (what == 0) {
            return meter.size;
        }
        return meter.size == 0 ? NOT_THERE : meter.together() / meter.size;
    }

    public int edges(int k, int much) {
        if (!recipe.leaves(k) || !isWithin(much, 2 * TOP)) {
            return NONE;
        }
        return recipe.isBehindF(k) ? meter.edgesOf(room.sheetOf(k), much) : OTHER_STAGE;
    }

    public long error(int k, int colour, int what) {
        if (!isLeftOf(k, colour) || !isWithin(what, 2)) {
            return NONE;
        }
        if (!recipe.isBehindF(k)) {
            return OTHER_STAGE;
        }
        if (!known.isThere) {
            return NOTHING_TO_GO_BY;
        }
        meter.findErrors(room.sheetOf(k), known, colour);
        if (what == 2) {
            return meter.squaredErrors;
        }
        return what == 0 ? meter.allErrors : meter.greatestError;
    }

    public int falseOnes(int k, int much) {
        if (!recipe.leaves(k) || !isWithin(much, TOP)) {
            return NONE;
        }
        return recipe.isBehindF(k) ? meter.falseOf(room.sheetOf(k), much) : OTHER_STAGE;
    }

    public int places(int k, int colour, int level, int what) {
        if (!isLeftOf(k, colour) || !isWithin(level, TOP) || !isWithin(what, 2)) {
            return NONE;
        }
        if (!recipe.isBehindF(k)) {
            return OTHER_STAGE;
        }
        clumps.markBright(room.sheetOf(k), colour, level);
        clumps.gather(false);
        if (what == 2) {
            return clumps.firstOfLargest;
        }
        return what == 0 ? clumps.howMany : clumps.largest;
    }

    public int unlike(int j, int k, int what) {
        if (!recipe.leaves(j) || !recipe.leaves(k) || !isWithin(what, 1)) {
            return NONE;
        }
        if (recipe.isBehindF(j) != recipe.isBehindF(k)) {
            return OTHER_STAGE;
        }
        meter.compare(room.sheetOf(j), room.sheetOf(k));
        return what == 0 ? meter.unlikeLevels : meter.greatestDifference;
    }

    public int without(int k, int what) {
        if (!recipe.has(k) || !isWithin(what, 1)) {
            return NONE;
        }
        if (k == recipe.fAt) {
            return OTHER_STAGE;
        }
        meter.compare(room.sheetOf(recipe.size), room.lastWith(k, NONE));
        return what == 0 ? meter.unlikeLevels : meter.greatestDifference;
    }

    public int best(int k, int what) {
        if (!recipe.has(k) || !isWithin(what, 2)) {
            return NONE;
        }
        if (LETTERS_WITH_A_BEST.indexOf((char) recipe.letterOf(k)) < 0) {
            return OTHER_STAGE;
        }
        if (recipe.fAt == 0 || (what == 2 && !known.isThere)) {
            return NOTHING_TO_GO_BY;
        }
        int best = 0;
        long least = 0;
        for (int tried = 0; tried <= LAST_TRIED; tried++) {
            long much = badness(room.lastWith(k, tried), what);
            if (tried == 0 || much < least) {
                least = much;
                best = tried;
            }
        }
        return best;
    }

    public boolean seed(int x) {
        if (!isWithin(x, 65535)) {
            return false;
        }
        chance = x;
        return true;
    }

    public int keep() {
        keptMosaic.copyFrom(mosaic);
        keptRecipe.copyFrom(recipe);
        keptChance = chance;
        isKept = true;
        return recipe.size;
    }

    public boolean undo() {
        if (!isKept) {
            return false;
        }
        mosaic.copyFrom(keptMosaic);
        recipe.copyFrom(keptRecipe);
        chance = keptChance;
        rawChanged();
        return true;
    }

    public int check(int n) {
        if (!isWithin(n, SIDE) || n > tape.size) {
            return NOT_THERE;
        }
        int wrong = NONE;
        for (int x = 0; x < n && wrong == NONE; x++) {
            if (x >= mosaic.w || mosaic.value[x] != tape.byteAt(x)) {
                wrong = x;
            }
        }
        tape.empty();
        return wrong;
    }

    public int count(int what) {
        switch (what) {
            case 0:
                return recipe.size;
            case 1:
                return tape.size;
            case 2:
                return chance;
            case 3:
                return recipe.fAt;
            default:
                return NONE;
        }
    }

    private void rawChanged() {
        known.isThere = false;
        room.forget();
    }

    private int drawn(int a, int b) {
        chance = (25173 * chance + 13849) % 65536;
        return (a + chance % (b + 1)) % 256;
    }

    private boolean isLeftOf(int k, int colour) {
        return recipe.leaves(k) && isWithin(colour, BLUE);
    }

    private void markFound(int k) {
        Sheet ahead = room.sheetOf(k - 1);
        int n = recipe.numberOf(k, 0);
        for (int y = 0; y < mosaic.h; y++) {
            for (int x = 0; x < mosaic.w; x++) {
                clumps.put(x, y, room.early.isFound(ahead, x, y, n));
            }
        }
    }

    private long badness(Sheet sheet, int what) {
        if (what == 1) {
            return meter.falseOf(sheet, FALSE_FOR_BEST);
        }
        long much = 0;
        for (int colour = RED; colour <= BLUE; colour++) {
            if (what == 0) {
                meter.findNoise(sheet, colour, 4);
                much += meter.allDetails;
            } else {
                meter.findErrors(sheet, known, colour);
                much += meter.allErrors;
            }
        }
        return much;
    }

    private static boolean isWithin(int number, int last) {
        return number >= 0 && number <= last;
    }

    private static boolean isSide(int number) {
        return number >= 4 && number <= SIDE && number % 2 == 0;
    }

    private static int clipped(int level) {
        return Math.max(0, Math.min(TOP, level));
    }

    /** Where a place up to two beyond the rim lies; a side is never less than 4. */
    private static int mirrored(int at, int side) {
        if (at < 0) {
            return -at;
        }
        return at < side ? at : 2 * side - 2 - at;
    }

    private static int lightOf(int[] level, int square) {
        return (level[square] + level[BLUE * AREA + square] + 2 * level[GREEN * AREA + square]) / 4;
    }

    private static int greatestOf(int[] level, int square) {
        return Math.max(Math.max(level[square], level[GREEN * AREA + square]), level[BLUE * AREA + square]);
    }

    private static int leastOf(int[] level, int square) {
        return Math.min(Math.min(level[square], level[GREEN * AREA + square]), level[BLUE * AREA + square]);
    }

    private static int blurOf(Mosaic mosaic, int[] level, int colour, int x, int y) {
        int west = mirrored(x - 1, mosaic.w);
        int east = mirrored(x + 1, mosaic.w);
        int here = colour * AREA + y * SIDE;
        int north = colour * AREA + mirrored(y - 1, mosaic.h) * SIDE;
        int south = colour * AREA + mirrored(y + 1, mosaic.h) * SIDE;
        int beside = level[here + west] + level[here + east] + level[north + x] + level[south + x];
        int aslant = level[north + west] + level[north + east] + level[south + west] + level[south + east];
        return (4 * level[here + x] + 2 * beside + aslant) / 16;
    }

    /** The bytes that were fed and not yet taken. */
    private static final class Tape {
        final int[] bytes = new int[TAPE_ROOM];
        int size;

        void append(int four) {
            for (int shift = 24; shift >= 0 && size < TAPE_ROOM; shift -= 8) {
                bytes[size] = (four >>> shift) & 255;
                size++;
            }
        }

        int byteAt(int at) {
            return at >= 0 && at < size ? bytes[at] : NONE;
        }

        void empty() {
            size = 0;
        }
    }

    /** The document's RAW. */
    private static final class Mosaic {
        int w = 4;
        int h = 4;
        int phase;
        final int[] value = new int[AREA];
        /** 1 for a dead square, 0 for another, so that dead ones are counted as values are. */
        final int[] dead = new int[AREA];

        void begin(int newW, int newH, int newPhase) {
            w = newW;
            h = newH;
            phase = newPhase;
            Arrays.fill(value, 0);
            wake();
        }

        void copyFrom(Mosaic other) {
            w = other.w;
            h = other.h;
            phase = other.phase;
            System.arraycopy(other.value, 0, value, 0, AREA);
            System.arraycopy(other.dead, 0, dead, 0, AREA);
        }

        void wake() {
            Arrays.fill(dead, 0);
        }

        boolean has(int x, int y) {
            return x >= 0 && x < w && y >= 0 && y < h;
        }

        /** Also right for places beyond the rim, since mirroring keeps odd odd and even even. */
        int colourOf(int x, int y) {
            int u = (x + phase) & 1;
            int v = (y + phase / 2) & 1;
            return u == v ? 2 * u : GREEN;
        }

        int squaresOf(int colour) {
            return colour == GREEN ? w * h / 2 : w * h / 4;
        }

        int sumOf(int[] row) {
            int sum = 0;
            for (int y = 0; y < h; y++) {
                for (int x = 0; x < w; x++) {
                    sum += row[y * SIDE + x];
                }
            }
            return sum;
        }

        /** Scenes but the fourth, which is drawn. */
        int laid(int kind, int a, int b, int x, int y) {
            switch (kind) {
                case 1:
                    return (a * x + b * y) % 256;
                case 2:
                    return x < w / 2 ? a : b;
                case 3:
                    return x + y < (w + h) / 2 ? a : b;
                case 5:
                    return colourOf(x, y) == RED ? b : a;
                case 6:
                    return x % 2 == 0 ? a : b;
                default:
                    return a;
            }
        }
    }

    /** The picture that the RAW was made of, if it is known. */
    private static final class Truth {
        final int[] value = new int[3 * AREA];
        boolean isThere;

        void lay(int kind, Tape tape, Mosaic mosaic) {
            for (int colour = RED; colour <= BLUE; colour++) {
                int first = tape.byteAt(colour);
                int second = tape.byteAt(3 + colour);
                for (int y = 0; y < mosaic.h; y++) {
                    for (int x = 0; x < mosaic.w; x++) {
                        int told = isFirst(kind, x, y, mosaic) ? first : second;
                        if (kind == 5 && mosaic.w > 1) {
                            told = first + (second - first) * x / (mosaic.w - 1);
                        }
                        value[colour * AREA + y * SIDE + x] = told;
                    }
                }
            }
        }

        private boolean isFirst(int kind, int x, int y, Mosaic mosaic) {
            switch (kind) {
                case 1:
                    return x < mosaic.w / 2;
                case 2:
                    return x + y < (mosaic.w + mosaic.h) / 2;
                case 3:
                    return y < mosaic.h / 2;
                case 4:
                    return (x / 2 + y / 2) % 2 == 0;
                default:
                    return true;
            }
        }
    }

    /** The stages, told from 1 on, with their numbers one behind the other. */
    private static final class Recipe {
        int size;
        int fAt;
        final int[] letter = new int[MOST_STAGES + 2];
        final int[] start = new int[MOST_STAGES + 2];
        final int[] number = new int[MOST_NUMBERS];

        void clear() {
            size = 0;
            fAt = 0;
            start[1] = 0;
        }

        void copyFrom(Recipe other) {
            size = other.size;
            fAt = other.fAt;
            System.arraycopy(other.letter, 0, letter, 0, letter.length);
            System.arraycopy(other.start, 0, start, 0, start.length);
            System.arraycopy(other.number, 0, number, 0, number.length);
        }

        void addStage(int newLetter) {
            if (size < MOST_STAGES) {
                size++;
                letter[size] = newLetter;
                start[size + 1] = start[size];
                if (newLetter == 'f') {
                    fAt = size;
                }
            }
        }

        void addNumber(int newNumber) {
            int end = start[size + 1];
            if (end < MOST_NUMBERS) {
                number[end] = newNumber;
                start[size + 1] = end + 1;
            }
        }

        boolean has(int k) {
            return k >= 1 && k <= size;
        }

        /** The RAW, too, is told as what a stage left: 0. */
        boolean leaves(int k) {
            return k >= 0 && k <= size;
        }

        boolean isBehindF(int k) {
            return fAt > 0 && k >= fAt;
        }

        boolean fillsAlongEdges() {
            return fAt > 0 && numberOf(fAt, 0) == 1;
        }

        int letterOf(int k) {
            return has(k) ? letter[k] : NONE;
        }

        int numbersOf(int k) {
            return has(k) ? start[k + 1] - start[k] : 0;
        }

        int numberOf(int k, int i) {
            return has(k) && i >= 0 && i < start[k + 1] - start[k] ? number[start[k] + i] : 0;
        }
    }

    /** Reads stages from the tape, from left to right up to the first fault. */
    private static final class Reader {
        private static final int CANNOT_STAND = 1;
        private static final int FOURTH_DIGIT = 2;
        private static final int NO_SUCH_NUMBER = 3;
        private static final int TOO_MANY = 4;
        private static final int WRONG_SIDE = 6;

        final Recipe draft = new Recipe();
        private final Tape tape;
        private int length;
        private int at;
        private int fault;

        Reader(Tape tape) {
            this.tape = tape;
        }

        /** How many stages there are, or the fault as stages() answers it. */
        int read(int n) {
            draft.clear();
            length = n;
            at = 0;
            fault = 0;
            boolean isMore = n > 0;
            for (int k = 0; isMore && k <= MOST_STAGES; k++) {
                readStage();
                isMore = fault == 0 && at < length;
                at++;
            }
            return fault == 0 ? draft.size : fault;
        }

        private void readStage() {
            int kind = readLetter();
            expect(':');
            if (fault == 0 && kind == KIND_OF_T) {
                readPoints();
            } else if (fault == 0) {
                readNumbers(kind);
            }
            if (fault == 0 && at < length && here() != ';') {
                tell(CANNOT_STAND, at);
            }
        }

        private int readLetter() {
            int sign = here();
            int kind = sign < 0 ? NONE : LETTERS.indexOf((char) sign);
            if (kind < 0) {
                tell(CANNOT_STAND, at);
            } else if (draft.size == MOST_STAGES) {
                tell(TOO_MANY, at);
            } else if ((kind <= KIND_OF_F) != (draft.fAt == 0)) {
                tell(WRONG_SIDE, at);
            } else {
                draft.addStage(sign);
                at++;
            }
            return kind;
        }

        private void readNumbers(int kind) {
            int many = kind >= 0 && kind < HOW_MANY_NUMBERS.length ? HOW_MANY_NUMBERS[kind] : 0;
            for (int i = 0; i < many && fault == 0; i++) {
                if (i == 0) {
                    readNumber(LEAST_FIRST[kind], GREATEST_FIRST[kind]);
                } else {
                    expect(',');
                    readNumber(0, GREATEST_LATER[kind]);
                }
            }
        }

        private void readPoints() {
            int x = readNumber(0, 0);
            expect('>');
            readNumber(0, LAST_VALUE);
            for (int i = 0; i < MOST_NUMBERS && fault == 0 && x < LAST_VALUE; i++) {
                expect(',');
                x = readNumber(x + 1, LAST_VALUE);
                expect('>');
                readNumber(0, LAST_VALUE);
            }
        }

        private int readNumber(int least, int greatest) {
            if (fault != 0) {
                return 0;
            }
            int start = at;
            int number = 0;
            for (int digits = 0; digits < 3 && isDigit(); digits++) {
                number = 10 * number + here() - '0';
                at++;
            }
            if (at == start) {
                tell(CANNOT_STAND, at);
            } else if (isDigit()) {
                tell(FOURTH_DIGIT, at);
            } else if (number < least || number > greatest) {
                tell(NO_SUCH_NUMBER, start);
            } else {
                draft.addNumber(number);
            }
            return number;
        }

        private void expect(char sign) {
            if (fault == 0 && here() == sign) {
                at++;
            } else {
                tell(CANNOT_STAND, at);
            }
        }

        private boolean isDigit() {
            return here() >= '0' && here() <= '9';
        }

        private int here() {
            return at < length ? tape.byteAt(at) : NONE;
        }

        /** Only the first fault counts: what is read behind it means nothing. */
        private void tell(int number, int place) {
            if (fault == 0) {
                fault = -1000 * number - place;
            }
        }
    }

    /** What a stage left: ahead of f one level for each square, behind it a plane for each colour. */
    private static final class Sheet {
        final int[] level = new int[3 * AREA];
        boolean isFull;

        void layRaw(Mosaic mosaic) {
            isFull = false;
            for (int y = 0; y < mosaic.h; y++) {
                for (int x = 0; x < mosaic.w; x++) {
                    level[y * SIDE + x] = 16 * mosaic.value[y * SIDE + x];
                }
            }
        }

        boolean tells(Mosaic mosaic, int x, int y, int colour) {
            return isFull || mosaic.colourOf(x, y) == colour;
        }

        int levelAt(int square, int colour) {
            return isFull ? level[colour * AREA + square] : level[square];
        }
    }

    /** Makes what each stage leaves, and keeps it until the RAW or the stages change. */
    private static final class Darkroom {
        final EarlyStages early;
        final LateStages late;
        private final Mosaic mosaic;
        private final Recipe recipe;
        private final Sheet[] sheets = new Sheet[MOST_STAGES + 1];
        private final Sheet oneTrial = new Sheet();
        private final Sheet otherTrial = new Sheet();
        /** The last sheet that is made. */
        private int made = -1;

        Darkroom(Mosaic mosaic, Recipe recipe) {
            this.mosaic = mosaic;
            this.recipe = recipe;
            early = new EarlyStages(mosaic);
            late = new LateStages(mosaic);
            for (int k = 0; k <= MOST_STAGES; k++) {
                sheets[k] = new Sheet();
            }
        }

        void forget() {
            made = -1;
        }

        Sheet sheetOf(int k) {
            int wanted = Math.max(0, Math.min(recipe.size, k));
            if (made < 0) {
                sheets[0].layRaw(mosaic);
                made = 0;
            }
            for (int next = made + 1; next <= wanted; next++) {
                apply(next, recipe.numberOf(next, 0), sheets[next - 1], sheets[next]);
                made = next;
            }
            return sheets[wanted];
        }

        /** What the last stage would leave with another first number of stage k; NONE: without stage k. */
        Sheet lastWith(int k, int firstNumber) {
            Sheet from = sheetOf(k - 1);
            for (int next = k; next <= recipe.size; next++) {
                if (next > k || firstNumber != NONE) {
                    Sheet to = from == oneTrial ? otherTrial : oneTrial;
                    apply(next, next == k ? firstNumber : recipe.numberOf(next, 0), from, to);
                    from = to;
                }
            }
            return from;
        }

        private void apply(int k, int first, Sheet from, Sheet to) {
            int second = recipe.numberOf(k, 1);
            int third = recipe.numberOf(k, 2);
            to.isFull = from.isFull || recipe.letterOf(k) == 'f';
            switch (recipe.letterOf(k)) {
                case 'b':
                    early.takeBlack(from, to, first);
                    break;
                case 'd':
                    early.fillFound(from, to, first);
                    break;
                case 'o':
                    early.takeDark(from, to, first);
                    break;
                case 'l':
                    early.liftShade(from, to, first);
                    break;
                case 'f':
                    early.fillMosaic(from, to, first);
                    break;
                case 'v':
                    late.voteDown(from, to, first);
                    break;
                case 'w':
                    late.findWhite(from, first);
                    late.multiply(from, to, late.gainOfRed, 256, late.gainOfBlue, 256);
                    break;
                case 'g':
                    late.multiply(from, to, first, second, third, 16);
                    break;
                case 'm':
                    late.stretch(from, to, first);
                    break;
                case 'h':
                    late.makePale(from, to, first);
                    break;
                case 't':
                    late.bend(from, to, recipe, k);
                    break;
                case 'p':
                    late.evenBlocks(from, to, first, second);
                    break;
                case 'y':
                    late.setTones(from, to, first, second, third);
                    break;
                case 'n':
                    late.takeNoise(from, to, first, second);
                    break;
                case 's':
                    late.sharpen(from, to, first, second);
                    break;
                default:
                    break;
            }
        }
    }

    /** The stages up to f: they take one level for each square. */
    private static final class EarlyStages {
        private final Mosaic mosaic;

        EarlyStages(Mosaic mosaic) {
            this.mosaic = mosaic;
        }

        void takeBlack(Sheet from, Sheet to, int n) {
            for (int y = 0; y < mosaic.h; y++) {
                for (int x = 0; x < mosaic.w; x++) {
                    to.level[y * SIDE + x] = clipped(from.level[y * SIDE + x] - 16 * n);
                }
            }
        }

        int darkOf(Sheet sheet, int y, int n) {
            int sum = 0;
            for (int x = 0; x < n && x < mosaic.w; x++) {
                sum += sheet.level[y * SIDE + x];
            }
            return n > 0 ? sum / n : 0;
        }

        void takeDark(Sheet from, Sheet to, int n) {
            for (int y = 0; y < mosaic.h; y++) {
                int dark = darkOf(from, y, n);
                for (int x = 0; x < mosaic.w; x++) {
                    to.level[y * SIDE + x] = clipped(from.level[y * SIDE + x] - dark);
                }
            }
        }

        int middleOf(Sheet sheet, int x, int y) {
            int[] level = sheet.level;
            int west = level[y * SIDE + mirrored(x - 2, mosaic.w)];
            int east = level[y * SIDE + mirrored(x + 2, mosaic.w)];
            int north = level[mirrored(y - 2, mosaic.h) * SIDE + x];
            int south = level[mirrored(y + 2, mosaic.h) * SIDE + x];
            int greatest = Math.max(Math.max(west, east), Math.max(north, south));
            int least = Math.min(Math.min(west, east), Math.min(north, south));
            return (west + east + north + south - greatest - least) / 2;
        }

        boolean isFound(Sheet sheet, int x, int y, int n) {
            int square = y * SIDE + x;
            return mosaic.dead[square] == 1 || Math.abs(sheet.level[square] - middleOf(sheet, x, y)) > 16 * n;
        }

        void fillFound(Sheet from, Sheet to, int n) {
            for (int y = 0; y < mosaic.h; y++) {
                for (int x = 0; x < mosaic.w; x++) {
                    int square = y * SIDE + x;
                    to.level[square] = isFound(from, x, y, n) ? middleOf(from, x, y) : from.level[square];
                }
            }
        }

        void liftShade(Sheet from, Sheet to, int n) {
            for (int y = 0; y < mosaic.h; y++) {
                for (int x = 0; x < mosaic.w; x++) {
                    int dx = 2 * x + 1 - mosaic.w;
                    int dy = 2 * y + 1 - mosaic.h;
                    int lift = 256 + n * (dx * dx + dy * dy) / 16;
                    to.level[y * SIDE + x] = clipped(from.level[y * SIDE + x] * lift / 256);
                }
            }
        }

        void fillMosaic(Sheet from, Sheet to, int k) {
            for (int y = 0; y < mosaic.h; y++) {
                for (int x = 0; x < mosaic.w; x++) {
                    to.level[GREEN * AREA + y * SIDE + x] = greenOf(from, x, y, k);
                }
            }
            for (int y = 0; y < mosaic.h; y++) {
                for (int x = 0; x < mosaic.w; x++) {
                    fillRedAndBlue(from, to, x, y);
                }
            }
        }

        /** As way() answers it: 0 west and east, 1 north and south, 2 all four. */
        int wayOf(Sheet sheet, int x, int y) {
            int[] level = sheet.level;
            int row = y * SIDE;
            int nearAcross = level[row + mirrored(x - 1, mosaic.w)] - level[row + mirrored(x + 1, mosaic.w)];
            int farAcross = level[row + mirrored(x - 2, mosaic.w)] + level[row + mirrored(x + 2, mosaic.w)];
            int nearDown = level[mirrored(y - 1, mosaic.h) * SIDE + x] - level[mirrored(y + 1, mosaic.h) * SIDE + x];
            int farDown = level[mirrored(y - 2, mosaic.h) * SIDE + x] + level[mirrored(y + 2, mosaic.h) * SIDE + x];
            int across = Math.abs(nearAcross) + Math.abs(2 * level[row + x] - farAcross);
            int down = Math.abs(nearDown) + Math.abs(2 * level[row + x] - farDown);
            if (across < down) {
                return 0;
            }
            return down < across ? 1 : 2;
        }

        private int greenOf(Sheet sheet, int x, int y, int k) {
            int[] level = sheet.level;
            if (mosaic.colourOf(x, y) == GREEN) {
                return level[y * SIDE + x];
            }
            int across = level[y * SIDE + mirrored(x - 1, mosaic.w)] + level[y * SIDE + mirrored(x + 1, mosaic.w)];
            int down = level[mirrored(y - 1, mosaic.h) * SIDE + x] + level[mirrored(y + 1, mosaic.h) * SIDE + x];
            int way = k == 1 ? wayOf(sheet, x, y) : 2;
            if (way == 2) {
                return (across + down) / 4;
            }
            return way == 0 ? across / 2 : down / 2;
        }

        private void fillRedAndBlue(Sheet from, Sheet to, int x, int y) {
            int square = y * SIDE + x;
            int own = mosaic.colourOf(x, y);
            int green = to.level[GREEN * AREA + square];
            if (own == GREEN) {
                int across = aboveGreen(from, to, x - 1, y) + aboveGreen(from, to, x + 1, y);
                int down = aboveGreen(from, to, x, y - 1) + aboveGreen(from, to, x, y + 1);
                int beside = mosaic.colourOf(x + 1, y);
                to.level[beside * AREA + square] = clipped(green + across / 2);
                to.level[(BLUE - beside) * AREA + square] = clipped(green + down / 2);
            } else {
                int aslant = aboveGreen(from, to, x - 1, y - 1) + aboveGreen(from, to, x + 1, y - 1)
                    + aboveGreen(from, to, x - 1, y + 1) + aboveGreen(from, to, x + 1, y + 1);
                to.level[own * AREA + square] = from.level[square];
                to.level[(BLUE - own) * AREA + square] = clipped(green + aslant / 4);
            }
        }

        private int aboveGreen(Sheet from, Sheet to, int x, int y) {
            int square = mirrored(y, mosaic.h) * SIDE + mirrored(x, mosaic.w);
            return from.level[square] - to.level[GREEN * AREA + square];
        }
    }

    /** The stages behind f: they take three levels for each square. */
    private static final class LateStages {
        private static final int TOP_FLOOR = 3;

        /** What findWhite() found. */
        int gainOfRed;
        int gainOfBlue;
        int greys;
        /** The bases that findBases() found, else a plane to work on. */
        final int[] plane = new int[AREA];
        /** The pyramid that buildFloors() built. */
        private final int[][] floors = new int[TOP_FLOOR + 1][AREA];
        private final int[] nine = new int[9];
        private final Mosaic mosaic;

        LateStages(Mosaic mosaic) {
            this.mosaic = mosaic;
        }

        void voteDown(Sheet from, Sheet to, int n) {
            System.arraycopy(from.level, 0, to.level, 0, 3 * AREA);
            for (int i = 0; i < n; i++) {
                voteColour(to.level, RED);
                voteColour(to.level, BLUE);
            }
        }

        private void voteColour(int[] level, int colour) {
            for (int y = 0; y < mosaic.h; y++) {
                for (int x = 0; x < mosaic.w; x++) {
                    int square = y * SIDE + x;
                    plane[square] = clipped(level[GREEN * AREA + square] + medianAt(level, colour, x, y));
                }
            }
            System.arraycopy(plane, 0, level, colour * AREA, AREA);
        }

        private int medianAt(int[] level, int colour, int x, int y) {
            int size = 0;
            for (int dy = -1; dy <= 1; dy++) {
                int row = mirrored(y + dy, mosaic.h) * SIDE;
                for (int dx = -1; dx <= 1; dx++) {
                    int square = row + mirrored(x + dx, mosaic.w);
                    int above = level[colour * AREA + square] - level[GREEN * AREA + square];
                    int at = size;
                    for (; at > 0 && nine[at - 1] > above; at--) {
                        nine[at] = nine[at - 1];
                    }
                    nine[at] = above;
                    size++;
                }
            }
            return nine[4];
        }

        void findWhite(Sheet sheet, int n) {
            int reds = 0;
            int greens = 0;
            int blues = 0;
            greys = 0;
            for (int y = 0; y < mosaic.h; y++) {
                for (int x = 0; x < mosaic.w; x++) {
                    int square = y * SIDE + x;
                    if (isGrey(sheet.level, square, n)) {
                        greys++;
                        reds += sheet.level[square];
                        greens += sheet.level[GREEN * AREA + square];
                        blues += sheet.level[BLUE * AREA + square];
                    }
                }
            }
            gainOfRed = gainOf(greens, reds);
            gainOfBlue = gainOf(greens, blues);
        }

        private boolean isGrey(int[] level, int square, int n) {
            int least = leastOf(level, square);
            int greatest = greatestOf(level, square);
            return least >= 64 && greatest <= 4000 && greatest - least <= 16 * n;
        }

        /** Without grey ones, whose least colour is never 0, both sums are 0. */
        private int gainOf(int greens, int others) {
            return others > 0 ? Math.max(64, Math.min(1024, 256 * greens / others)) : 256;
        }

        void multiply(Sheet from, Sheet to, int red, int green, int blue, int by) {
            multiplyColour(from, to, RED, red, by);
            multiplyColour(from, to, GREEN, green, by);
            multiplyColour(from, to, BLUE, blue, by);
        }

        private void multiplyColour(Sheet from, Sheet to, int colour, int times, int by) {
            for (int y = 0; y < mosaic.h && by > 0; y++) {
                for (int x = 0; x < mosaic.w; x++) {
                    int at = colour * AREA + y * SIDE + x;
                    to.level[at] = clipped(from.level[at] * times / by);
                }
            }
        }

        void stretch(Sheet from, Sheet to, int n) {
            for (int y = 0; y < mosaic.h; y++) {
                for (int x = 0; x < mosaic.w; x++) {
                    int light = lightOf(from.level, y * SIDE + x);
                    for (int at = y * SIDE + x; at < 3 * AREA; at += AREA) {
                        to.level[at] = clipped(light + (from.level[at] - light) * n / 16);
                    }
                }
            }
        }

        void makePale(Sheet from, Sheet to, int n) {
            for (int y = 0; y < mosaic.h; y++) {
                for (int x = 0; x < mosaic.w; x++) {
                    int peak = greatestOf(from.level, y * SIDE + x);
                    for (int at = y * SIDE + x; at < 3 * AREA; at += AREA) {
                        to.level[at] = paled(from.level[at], peak, 16 * n);
                    }
                }
            }
        }

        private int paled(int level, int peak, int limit) {
            boolean isTooBright = peak > limit && limit < TOP;
            return isTooBright ? level + (peak - level) * (peak - limit) / (TOP - limit) : level;
        }

        void bend(Sheet from, Sheet to, Recipe recipe, int k) {
            for (int y = 0; y < mosaic.h; y++) {
                for (int x = 0; x < mosaic.w; x++) {
                    for (int at = y * SIDE + x; at < 3 * AREA; at += AREA) {
                        to.level[at] = bent(from.level[at], recipe, k);
                    }
                }
            }
        }

        private int bent(int level, Recipe recipe, int k) {
            int last = recipe.numbersOf(k) / 2 - 1;
            int point = 0;
            while (point < last - 1 && 16 * recipe.numberOf(k, 2 * point + 2) <= level) {
                point++;
            }
            int x = recipe.numberOf(k, 2 * point);
            int y = recipe.numberOf(k, 2 * point + 1);
            int wide = recipe.numberOf(k, 2 * point + 2) - x;
            int high = recipe.numberOf(k, 2 * point + 3) - y;
            return wide > 0 ? clipped(16 * y + (level - 16 * x) * high / wide) : clipped(16 * y);
        }

        void evenBlocks(Sheet from, Sheet to, int k, int n) {
            findBases(from, k);
            int sum = 0;
            for (int y = 0; y < mosaic.h; y++) {
                for (int x = 0; x < mosaic.w; x++) {
                    sum += lightOf(from.level, y * SIDE + x);
                }
            }
            int many = mosaic.w * mosaic.h;
            int mean = many > 0 ? sum / many : 0;
            for (int y = 0; y < mosaic.h; y++) {
                for (int x = 0; x < mosaic.w; x++) {
                    addToAll(from, to, y * SIDE + x, (mean - plane[y * SIDE + x]) * n / 16);
                }
            }
        }

        /** Lays the base of its block on each square of the plane. */
        void findBases(Sheet sheet, int k) {
            int side = 1 << Math.max(0, Math.min(4, k));
            for (int top = 0; top < mosaic.h; top += side) {
                for (int west = 0; west < mosaic.w; west += side) {
                    layBase(sheet, west, top, side);
                }
            }
        }

        private void layBase(Sheet sheet, int west, int top, int side) {
            int east = Math.min(mosaic.w, west + side);
            int bottom = Math.min(mosaic.h, top + side);
            int sum = 0;
            for (int y = top; y < bottom; y++) {
                for (int x = west; x < east; x++) {
                    sum += lightOf(sheet.level, y * SIDE + x);
                }
            }
            int many = (east - west) * (bottom - top);
            int mean = many > 0 ? sum / many : 0;
            for (int y = top; y < bottom; y++) {
                for (int x = west; x < east; x++) {
                    plane[y * SIDE + x] = mean;
                }
            }
        }

        void setTones(Sheet from, Sheet to, int a, int b, int c) {
            buildFloors(from);
            for (int y = 0; y < mosaic.h; y++) {
                for (int x = 0; x < mosaic.w; x++) {
                    addToAll(from, to, y * SIDE + x, toneOf(x, y, a, b, c) - floorOf(0, x, y));
                }
            }
        }

        void buildFloors(Sheet sheet) {
            int w = mosaic.w;
            int h = mosaic.h;
            for (int y = 0; y < h; y++) {
                for (int x = 0; x < w; x++) {
                    floors[0][y * SIDE + x] = lightOf(sheet.level, y * SIDE + x);
                }
            }
            for (int floor = 1; floor <= TOP_FLOOR; floor++) {
                buildFloor(floors[floor - 1], floors[floor], w, h);
                w = (w + 1) / 2;
                h = (h + 1) / 2;
            }
        }

        /** On a floor of w by h the next one. */
        private void buildFloor(int[] below, int[] floor, int w, int h) {
            for (int y = 0; y < h; y += 2) {
                for (int x = 0; x < w; x += 2) {
                    boolean isWide = x + 1 < w;
                    boolean isHigh = y + 1 < h;
                    int at = y * SIDE + x;
                    int sum = below[at] + (isWide ? below[at + 1] : 0) + (isHigh ? below[at + SIDE] : 0)
                        + (isWide && isHigh ? below[at + SIDE + 1] : 0);
                    floor[y / 2 * SIDE + x / 2] = sum / ((isWide ? 2 : 1) * (isHigh ? 2 : 1));
                }
            }
        }

        int floorOf(int floor, int x, int y) {
            return floor >= 0 && floor <= TOP_FLOOR ? floors[floor][(y >> floor) * SIDE + (x >> floor)] : 0;
        }

        int toneOf(int x, int y, int a, int b, int c) {
            int first = floorOf(1, x, y);
            int second = floorOf(2, x, y);
            int third = floorOf(3, x, y);
            return third + (floorOf(0, x, y) - first) * a / 16 + (first - second) * b / 16
                + (second - third) * c / 16;
        }

        private void addToAll(Sheet from, Sheet to, int square, int more) {
            for (int at = square; at < 3 * AREA; at += AREA) {
                to.level[at] = clipped(from.level[at] + more);
            }
        }

        void takeNoise(Sheet from, Sheet to, int a, int b) {
            for (int colour = RED; colour <= BLUE; colour++) {
                for (int y = 0; y < mosaic.h; y++) {
                    for (int x = 0; x < mosaic.w; x++) {
                        int at = colour * AREA + y * SIDE + x;
                        int blur = blurOf(mosaic, from.level, colour, x, y);
                        int limit = 16 * a + b * blur / 64;
                        int detail = from.level[at] - blur;
                        int rest = Math.max(0, Math.abs(detail) - limit);
                        to.level[at] = clipped(detail < 0 ? blur - rest : blur + rest);
                    }
                }
            }
        }

        void sharpen(Sheet from, Sheet to, int n, int m) {
            for (int colour = RED; colour <= BLUE; colour++) {
                for (int y = 0; y < mosaic.h; y++) {
                    for (int x = 0; x < mosaic.w; x++) {
                        int at = colour * AREA + y * SIDE + x;
                        int detail = from.level[at] - blurOf(mosaic, from.level, colour, x, y);
                        int more = Math.max(-16 * m, Math.min(16 * m, detail * n / 16));
                        to.level[at] = clipped(from.level[at] + more);
                    }
                }
            }
        }
    }

    /** Measures sheets. */
    private static final class Meter {
        /** How many levels were gathered. */
        int size;
        /** What findNoise() found. */
        int noisyOnes;
        int allDetails;
        int greatestDetail;
        /** What findErrors() found. */
        long allErrors;
        long greatestError;
        long squaredErrors;
        /** What compare() found. */
        int unlikeLevels;
        int greatestDifference;
        private final int[] gathered = new int[AREA];
        /** A bit for each level. */
        private final long[] seen = new long[(TOP + 1) / 64];
        private final Mosaic mosaic;

        Meter(Mosaic mosaic) {
            this.mosaic = mosaic;
        }

        /** A colour's levels, row by row. */
        void gather(Sheet sheet, int colour) {
            gatherRing(sheet, colour, NONE);
        }

        /** Those of one ring alone; NONE: of all rings. */
        void gatherRing(Sheet sheet, int colour, int ring) {
            size = 0;
            for (int y = 0; y < mosaic.h; y++) {
                for (int x = 0; x < mosaic.w; x++) {
                    boolean isIn = ring == NONE || ringOf(x, y) == ring;
                    if (isIn && size < AREA && sheet.tells(mosaic, x, y, colour)) {
                        gathered[size] = sheet.levelAt(y * SIDE + x, colour);
                        size++;
                    }
                }
            }
        }

        private int ringOf(int x, int y) {
            int dx = 2 * x + 1 - mosaic.w;
            int dy = 2 * y + 1 - mosaic.h;
            int all = mosaic.w * mosaic.w + mosaic.h * mosaic.h;
            return all > 0 ? (dx * dx + dy * dy) * 4 / all : 0;
        }

        int least() {
            int least = TOP;
            for (int i = 0; i < size; i++) {
                least = Math.min(least, gathered[i]);
            }
            return least;
        }

        int greatest() {
            int greatest = 0;
            for (int i = 0; i < size; i++) {
                greatest = Math.max(greatest, gathered[i]);
            }
            return greatest;
        }

        int together() {
            int sum = 0;
            for (int i = 0; i < size; i++) {
                sum += gathered[i];
            }
            return sum;
        }

        int between(int first, int last) {
            int many = 0;
            for (int i = 0; i < size; i++) {
                if (gathered[i] >= first && gathered[i] <= last) {
                    many++;
                }
            }
            return many;
        }

        int unlikeOnes() {
            Arrays.fill(seen, 0L);
            for (int i = 0; i < size; i++) {
                int level = clipped(gathered[i]);
                seen[level / 64] |= 1L << (level % 64);
            }
            int many = 0;
            for (int i = 0; i < seen.length; i++) {
                many += Long.bitCount(seen[i]);
            }
            return many;
        }

        /** Halves the levels that it may be until one is left. */
        int percentile(int p) {
            int low = 0;
            int high = TOP;
            for (int i = 0; i < 12 && low < high; i++) {
                int half = (low + high) / 2;
                if (100 * between(0, half) >= p * size) {
                    high = half;
                } else {
                    low = half + 1;
                }
            }
            return low;
        }

        int bitsOfAll() {
            int sum = 0;
            int ahead = 0;
            for (int i = 0; i < size; i++) {
                int now = gathered[i] / 16;
                sum += 1 + 2 * digitsOf(Math.abs(now - ahead));
                ahead = now;
            }
            return sum;
        }

        /** Binary digits; a level by 16 has at most eight. */
        private int digitsOf(int number) {
            int digits = 0;
            while (digits < 31 && number >> digits > 0) {
                digits++;
            }
            return digits;
        }

        void findNoise(Sheet sheet, int colour, int band) {
            noisyOnes = 0;
            allDetails = 0;
            greatestDetail = 0;
            for (int y = 0; y < mosaic.h; y++) {
                for (int x = 0; x < mosaic.w; x++) {
                    int blur = blurOf(mosaic, sheet.level, colour, x, y);
                    if (band == 4 || blur / 1024 == band) {
                        int detail = Math.abs(sheet.level[colour * AREA + y * SIDE + x] - blur);
                        noisyOnes++;
                        allDetails += detail;
                        greatestDetail = Math.max(greatestDetail, detail);
                    }
                }
            }
        }

        int edgesOf(Sheet sheet, int much) {
            int many = 0;
            for (int y = 0; y < mosaic.h; y++) {
                for (int x = 0; x < mosaic.w; x++) {
                    int across = lightAt(sheet, x - 1, y) - lightAt(sheet, x + 1, y);
                    int down = lightAt(sheet, x, y - 1) - lightAt(sheet, x, y + 1);
                    if (Math.abs(across) + Math.abs(down) >= much) {
                        many++;
                    }
                }
            }
            return many;
        }

        private int lightAt(Sheet sheet, int x, int y) {
            return lightOf(sheet.level, mirrored(y, mosaic.h) * SIDE + mirrored(x, mosaic.w));
        }

        void findErrors(Sheet sheet, Truth truth, int colour) {
            allErrors = 0;
            greatestError = 0;
            squaredErrors = 0;
            for (int y = 0; y < mosaic.h; y++) {
                for (int x = 0; x < mosaic.w; x++) {
                    int at = colour * AREA + y * SIDE + x;
                    long wrong = Math.abs(sheet.level[at] - 16 * truth.value[at]);
                    allErrors += wrong;
                    greatestError = Math.max(greatestError, wrong);
                    squaredErrors += wrong * wrong;
                }
            }
        }

        int falseOf(Sheet sheet, int much) {
            int many = 0;
            for (int y = 0; y < mosaic.h; y++) {
                for (int x = 0; x < mosaic.w; x++) {
                    int square = y * SIDE + x;
                    if (greatestOf(sheet.level, square) - leastOf(sheet.level, square) > much) {
                        many++;
                    }
                }
            }
            return many;
        }

        void compare(Sheet one, Sheet other) {
            unlikeLevels = 0;
            greatestDifference = 0;
            int planes = one.isFull && other.isFull ? 3 : 1;
            for (int plane = 0; plane < planes; plane++) {
                for (int y = 0; y < mosaic.h; y++) {
                    for (int x = 0; x < mosaic.w; x++) {
                        int at = plane * AREA + y * SIDE + x;
                        int difference = Math.abs(one.level[at] - other.level[at]);
                        unlikeLevels += difference > 0 ? 1 : 0;
                        greatestDifference = Math.max(greatestDifference, difference);
                    }
                }
            }
        }
    }

    /** Marked squares, and which of them hang together. */
    private static final class Clumps {
        /** What gather() found; the first of the largest is -2 if there is none. */
        int howMany;
        int largest;
        int firstOfLargest;
        private final int[] mark = new int[AREA];
        private final int[] rest = new int[AREA];
        private final int[] queue = new int[AREA];
        private int queued;
        private final Mosaic mosaic;

        Clumps(Mosaic mosaic) {
            this.mosaic = mosaic;
        }

        void put(int x, int y, boolean isMarked) {
            if (mosaic.has(x, y)) {
                mark[y * SIDE + x] = isMarked ? 1 : 0;
            }
        }

        void markBright(Sheet sheet, int colour, int level) {
            for (int y = 0; y < mosaic.h; y++) {
                for (int x = 0; x < mosaic.w; x++) {
                    put(x, y, sheet.levelAt(y * SIDE + x, colour) >= level);
                }
            }
        }

        int marked() {
            return mosaic.sumOf(mark);
        }

        int markedAnd(int[] other) {
            int many = 0;
            for (int y = 0; y < mosaic.h; y++) {
                for (int x = 0; x < mosaic.w; x++) {
                    many += mark[y * SIDE + x] & other[y * SIDE + x];
                }
            }
            return many;
        }

        int firstMarked() {
            for (int y = 0; y < mosaic.h; y++) {
                for (int x = 0; x < mosaic.w; x++) {
                    if (mark[y * SIDE + x] == 1) {
                        return y * SIDE + x;
                    }
                }
            }
            return NOT_THERE;
        }

        int lastMarked() {
            int last = NOT_THERE;
            for (int y = 0; y < mosaic.h; y++) {
                for (int x = 0; x < mosaic.w; x++) {
                    if (mark[y * SIDE + x] == 1) {
                        last = y * SIDE + x;
                    }
                }
            }
            return last;
        }

        void gather(boolean isAslant) {
            howMany = 0;
            largest = 0;
            firstOfLargest = NOT_THERE;
            System.arraycopy(mark, 0, rest, 0, AREA);
            for (int y = 0; y < mosaic.h; y++) {
                for (int x = 0; x < mosaic.w; x++) {
                    if (rest[y * SIDE + x] == 1) {
                        howMany++;
                        int many = take(x, y, isAslant);
                        if (many > largest) {
                            largest = many;
                            firstOfLargest = y * SIDE + x;
                        }
                    }
                }
            }
        }

        /** Takes all that hang together with a square out of the rest: how many. */
        private int take(int x, int y, boolean isAslant) {
            queued = 0;
            enqueue(x, y);
            for (int i = 0; i < queued && i < AREA; i++) {
                int atX = queue[i] % SIDE;
                int atY = queue[i] / SIDE;
                for (int dy = -1; dy <= 1; dy++) {
                    for (int dx = -1; dx <= 1; dx++) {
                        if (isAslant || dx == 0 || dy == 0) {
                            enqueue(atX + dx, atY + dy);
                        }
                    }
                }
            }
            return queued;
        }

        private void enqueue(int x, int y) {
            if (mosaic.has(x, y) && queued < AREA && rest[y * SIDE + x] == 1) {
                rest[y * SIDE + x] = 0;
                queue[queued] = y * SIDE + x;
                queued++;
            }
        }
    }
}
