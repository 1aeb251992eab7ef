/** The RAW, scenes, truths, what is kept: a test for each sentence that names a boundary (promises 1, 4 to 11, 35 to 39). */
public final class RawBoundariesTest extends Bench {
    private static final int[] FAR = {LOW, LOW + 1, -1000, HIGH - 1, HIGH};

    public static void main(String[] args) {
        aNewObject();
        everySize();
        rawStartsAnew();
        rawRefused();
        rowsOfTheRaw();
        rowTakesTheTape();
        pixels();
        deadOrNot();
        sceneNumbers();
        sceneSlope();
        sceneHalves();
        sceneDrawn();
        sceneOfReds();
        sceneOfColumns();
        sceneWakesTheDead();
        truthNumbers();
        truthHalves();
        truthChequered();
        truthSloped();
        truthOfThePhase();
        truthWakesTheDead();
        truthGoes();
        truthStays();
        whatTheRawIs();
        coloursOfPhases();
        seeds();
        keeps();
        nothingKept();
        undoes();
        checks();
        counts();
        calls512();
        end("the raw's boundaries hold");
    }

    private static int value(RawPictures x, int atX, int atY) {
        int level = x.left(0, atX, atY, x.colour(atX, atY));
        return level % 16 == 0 ? level / 16 : -1000;
    }

    private static void aNewObject() {
        says("1: A RAW of 4 by 4, PHASE 0; no STAGES; THE SEED 1");
        RawPictures x = new RawPictures();
        due("W", x.rawIs(0), 4);
        due("H", x.rawIs(1), 4);
        due("PHASE", x.rawIs(2), 0);
        due("DEAD (not at first)", x.rawIs(3), 0);
        for (int i = 0; i < 16; i++) {
            due("VALUE (0 at first) of " + i, value(x, i % 4, i / 4), 0);
        }
        due("no STAGES", x.count(0), 0);
        due("no tape", x.count(1), 0);
        due("X", x.count(2), 1);
        due("no f", x.count(3), 0);
        no("nothing KEPT", x.undo());
        tell(x, "f:0");
        due("no TRUTH", x.error(1, 0, 0), -4);
        RawPictures y = new RawPictures();
        due("another one is new, too", y.count(0), 0);
    }

    private static void everySize() {
        says("4: W by H SQUARES (4 to 16 both, even), PHASE 0 to 3: true; false: no such ones");
        for (int w = -2; w <= 20; w++) {
            for (int h = -2; h <= 20; h++) {
                RawPictures x = new RawPictures();
                boolean isSize = w >= 4 && w <= 16 && w % 2 == 0 && h >= 4 && h <= 16 && h % 2 == 0;
                for (int phase = -1; phase <= 4; phase++) {
                    boolean isDue = isSize && phase >= 0 && phase <= 3;
                    due("raw " + w + ", " + h + ", " + phase, x.raw(w, h, phase) ? 1 : 0, isDue ? 1 : 0);
                    if (isDue) {
                        due("W", x.rawIs(0), w);
                        due("H", x.rawIs(1), h);
                        due("PHASE", x.rawIs(2), phase);
                        due("the last SQUARE", x.left(0, w - 1, h - 1, x.colour(w - 1, h - 1)), 0);
                        due("beyond it to the east", x.colour(w, h - 1), -1);
                        due("beyond it to the south", x.colour(w - 1, h), -1);
                    }
                }
            }
        }
        for (int far : FAR) {
            RawPictures x = new RawPictures();
            no("W " + far, x.raw(far, 4, 0));
            no("H " + far, x.raw(4, far, 0));
            no("PHASE " + far, x.raw(4, 4, far));
        }
    }

    private static void rawStartsAnew() {
        says("4: all VALUES 0, none DEAD");
        RawPictures x = with(16, 16, 3, "b:0;f:0");
        x.scene(0, 255, 0);
        x.dead(15, 15, true);
        x.dead(0, 0, true);
        x.seed(77);
        x.feed(1, 2, 3, 4, 5);
        yes("the same size", x.raw(16, 16, 3));
        due("VALUES", x.rawIs(4), 0);
        due("DEAD", x.rawIs(3), 0);
        x.scene(0, 255, 0);
        x.dead(9, 9, true);
        yes("smaller", x.raw(4, 4, 0));
        due("VALUES", x.rawIs(4), 0);
        yes("larger again", x.raw(16, 16, 0));
        due("VALUES beyond", x.rawIs(4), 0);
        due("DEAD beyond", x.rawIs(3), 0);
        says("4: nothing else changes");
        due("STAGES", x.count(0), 2);
        due("the tape", x.count(1), 20);
        due("X", x.count(2), 77);
    }

    private static void rawRefused() {
        says("4: false: the RAW stays");
        RawPictures x = new RawPictures();
        x.raw(6, 8, 2);
        x.scene(0, 3, 0);
        x.dead(5, 7, true);
        int[][] bad = {{4, 4, 4}, {4, 4, -1}, {3, 4, 0}, {4, 17, 0}, {18, 16, 0}, {16, 15, 0}};
        for (int[] b : bad) {
            no("raw " + b[0] + ", " + b[1] + ", " + b[2], x.raw(b[0], b[1], b[2]));
            due("W", x.rawIs(0), 6);
            due("H", x.rawIs(1), 8);
            due("PHASE", x.rawIs(2), 2);
            due("DEAD", x.rawIs(3), 1);
            due("VALUES", x.rawIs(4), 144);
        }
    }

    private static void rowsOfTheRaw() {
        says("5: false: no such row");
        for (int h = 4; h <= 16; h += 6) {
            RawPictures x = new RawPictures();
            x.raw(4, h, 0);
            for (int y : new int[] {LOW, -1, h, h + 1, 16, HIGH}) {
                x.feed(-1, -1, -1, -1, -1);
                no("row " + y + " of " + h, x.row(y));
                due("the tape stays", x.count(1), 20);
                x.check(0);
            }
            x.feed(-1, -1, -1, -1, -1);
            yes("row 0", x.row(0));
            x.feed(-1, -1, -1, -1, -1);
            yes("the last row", x.row(h - 1));
            due("these two alone", x.rawIs(4), 2 * 4 * 255);
            due("the first of the last", value(x, 0, h - 1), 255);
        }
    }

    private static void rowTakesTheTape() {
        says("5: Row Y has the first W bytes of the tape as VALUES (empty then)");
        RawPictures x = new RawPictures();
        x.raw(16, 4, 0);
        no("it has not so many", x.row(0));
        for (int i = 0; i < 7; i++) {
            x.feed(0x00017fff, 0x80050607, 0x08090a0b, 0x0c0d0e0f, -1);
        }
        x.dead(3, 2, true);
        yes("of 140 the first 16", x.row(2));
        due("empty, all of it", x.count(1), 0);
        int[] want = {0, 1, 127, 255, 128, 5, 6, 7, 8, 9, 10, 11, 12, 13, 14, 15};
        for (int i = 0; i < 16; i++) {
            due("VALUE " + i, value(x, i, 2), want[i]);
            due("the row ahead", value(x, i, 1), 0);
            due("the row behind", value(x, i, 3), 0);
        }
        due("DEAD stays", x.rawIs(3), 1);
        no("empty: it has not so many", x.row(2));
        due("the VALUES stay", value(x, 15, 2), 15);
        x.raw(4, 4, 0);
        x.feed(0x01020304, -1, -1, -1, -1);
        yes("of 20 the first 4", x.row(3));
        due("no more than 4", x.rawIs(4), 10);
    }

    private static void pixels() {
        says("6: A VALUE (0 to 255): true; false: no such ones");
        for (int v = -2; v <= 258; v++) {
            RawPictures one = new RawPictures();
            one.raw(6, 4, 1);
            one.pixel(5, 3, 7);
            boolean isDue = v >= 0 && v <= 255;
            due("value " + v, one.pixel(5, 3, v) ? 1 : 0, isDue ? 1 : 0);
            due("it is", value(one, 5, 3), isDue ? v : 7);
        }
        RawPictures x = new RawPictures();
        x.raw(6, 4, 1);
        x.pixel(5, 3, 255);
        for (int far : FAR) {
            no("value " + far, x.pixel(0, 0, far));
            no("X " + far, x.pixel(far, 0, 1));
            no("Y " + far, x.pixel(0, far, 1));
        }
        no("X 6", x.pixel(6, 0, 1));
        no("Y 4", x.pixel(0, 4, 1));
        no("X -1", x.pixel(-1, 1, 1));
        no("Y -1", x.pixel(1, -1, 1));
        due("the last alone has a VALUE", x.rawIs(4), 255);
        yes("the first", x.pixel(0, 0, 1));
        yes("the end of the first row", x.pixel(5, 0, 2));
        yes("the first of the last row", x.pixel(0, 3, 4));
        due("together", x.rawIs(4), 262);
        x.dead(0, 0, true);
        yes("of a DEAD one", x.pixel(0, 0, 9));
        due("it stays DEAD", x.rawIs(3), 1);
    }

    private static void deadOrNot() {
        says("7: DEAD, or not: how many are; NONE: no such SQUARE");
        RawPictures x = new RawPictures();
        due("not, and was not", x.dead(0, 0, false), 0);
        for (int i = 0; i < 16; i++) {
            due("one more", x.dead(i % 4, i / 4, true), i + 1);
        }
        due("all are, again", x.dead(3, 3, true), 16);
        for (int far : FAR) {
            due("X " + far, x.dead(far, 0, false), -1);
            due("Y " + far, x.dead(0, far, false), -1);
        }
        due("X 4", x.dead(4, 0, false), -1);
        due("Y 4", x.dead(0, 4, false), -1);
        due("X -1", x.dead(-1, 1, false), -1);
        due("Y -1", x.dead(1, -1, true), -1);
        due("all stay", x.rawIs(3), 16);
        due("one is not", x.dead(3, 3, false), 15);
        due("again", x.dead(3, 3, false), 15);
        due("the VALUES stay", x.rawIs(4), 0);
    }

    private static void sceneNumbers() {
        says("8: A SCENE 0 to 6 with A, B (0 to 255): true; false: no such ones");
        RawPictures x = new RawPictures();
        x.scene(0, 7, 0);
        x.dead(1, 1, true);
        for (int kind = 0; kind <= 6; kind++) {
            for (int bad : new int[] {LOW, -1, 256, HIGH}) {
                no("kind " + kind + " A " + bad, x.scene(kind, bad, 0));
                no("kind " + kind + " B " + bad, x.scene(kind, 0, bad));
            }
        }
        for (int kind : new int[] {LOW, -1, 7, 8, HIGH}) {
            no("kind " + kind, x.scene(kind, 0, 0));
        }
        due("the VALUES stay", x.rawIs(4), 112);
        due("DEAD stays", x.rawIs(3), 1);
        due("X stays", x.count(2), 1);
        for (int kind = 0; kind <= 6; kind++) {
            yes("kind " + kind + " of 0", x.scene(kind, 0, 0));
            due("all 0", x.rawIs(4), 0);
            yes("kind " + kind + " of 255", x.scene(kind, 255, 255));
        }
        says("SCENES: 0 each VALUE A");
        yes("255, 0", x.scene(0, 255, 0));
        due("all", x.rawIs(4), 16 * 255);
    }

    private static void sceneSlope() {
        says("SCENES: 1 (A X + B Y) modulo 256");
        RawPictures x = new RawPictures();
        x.raw(16, 16, 0);
        x.scene(1, 255, 255);
        due("255", value(x, 1, 0), 255);
        due("510 modulo 256", value(x, 1, 1), 254);
        due("30 times 255 modulo 256", value(x, 15, 15), 226);
        x.scene(1, 128, 0);
        due("256 modulo 256", value(x, 2, 7), 0);
        x.scene(1, 0, 51);
        due("5 times 51", value(x, 9, 5), 255);
        due("6 times 51 less 256", value(x, 9, 6), 50);
        due("A is for X", value(x, 15, 0), 0);
    }

    private static void sceneHalves() {
        says("SCENES: 2 A where X is below half of W, else B");
        for (int w = 4; w <= 16; w += 2) {
            RawPictures x = new RawPictures();
            x.raw(w, 4, 0);
            x.scene(2, 1, 2);
            due("the last below half of " + w, value(x, w / 2 - 1, 3), 1);
            due("half of " + w, value(x, w / 2, 0), 2);
            due("all", x.rawIs(4), 6 * w);
        }
        says("SCENES: 3 A where X + Y is below half of W + H, else B");
        int[][] size = {{4, 4}, {4, 6}, {16, 4}, {6, 10}};
        for (int[] s : size) {
            RawPictures x = new RawPictures();
            x.raw(s[0], s[1], 0);
            x.scene(3, 1, 2);
            int half = (s[0] + s[1]) / 2;
            for (int y = 0; y < s[1]; y++) {
                if (half - 1 - y >= 0 && half - 1 - y < s[0]) {
                    due("one below half, row " + y, value(x, half - 1 - y, y), 1);
                }
                if (half - y >= 0 && half - y < s[0]) {
                    due("half, row " + y, value(x, half - y, y), 2);
                }
            }
            due("the first", value(x, 0, 0), 1);
            due("the last", value(x, s[0] - 1, s[1] - 1), 2);
        }
    }

    private static void sceneDrawn() {
        says("SCENES: 4 (A + X anew modulo (B + 1)) modulo 256, row by row");
        RawPictures x = new RawPictures();
        x.raw(6, 4, 0);
        x.scene(4, 0, 255);
        long chance = 1;
        for (int i = 0; i < 24; i++) {
            chance = (25173 * chance + 13849) % 65536;
            due("drawn " + i, value(x, i % 6, i / 6), chance % 256);
        }
        due("X behind the last", x.count(2), chance);
        x.scene(4, 250, 9);
        for (int i = 0; i < 24; i++) {
            chance = (25173 * chance + 13849) % 65536;
            due("goes on, B + 1 is 10, modulo 256: " + i, value(x, i % 6, i / 6), (250 + chance % 10) % 256);
        }
        x.scene(4, 255, 0);
        for (int i = 0; i < 24; i++) {
            chance = (25173 * chance + 13849) % 65536;
        }
        due("B 0: A alone", x.rawIs(4), 24 * 255);
        due("but X is drawn", x.count(2), chance);
        says("X = (25173 X + 13849) modulo 65536");
        x.seed(65535);
        x.raw(4, 4, 0);
        x.scene(4, 0, 255);
        due("from 65535: 54212 modulo 256", value(x, 0, 0), 54212 % 256);
        x.seed(0);
        x.scene(4, 0, 255);
        due("from 0: 13849 modulo 256", value(x, 0, 0), 25);
        says("SCENES but 4 draw nothing");
        x.seed(5);
        for (int kind : new int[] {0, 1, 2, 3, 5, 6}) {
            x.scene(kind, 9, 9);
            due("X behind kind " + kind, x.count(2), 5);
        }
    }

    private static void sceneOfReds() {
        says("SCENES: 5 A, but B on RED SQUARES");
        int[][] red = {{0, 0}, {1, 0}, {0, 1}, {1, 1}};
        for (int phase = 0; phase < 4; phase++) {
            RawPictures x = new RawPictures();
            x.raw(6, 4, phase);
            x.scene(5, 1, 100);
            for (int i = 0; i < 24; i++) {
                boolean isRed = i % 6 % 2 == red[phase][0] && i / 6 % 2 == red[phase][1];
                due("phase " + phase + " square " + i, value(x, i % 6, i / 6), isRed ? 100 : 1);
            }
        }
    }

    private static void sceneOfColumns() {
        says("SCENES: 6 A where X is even, else B");
        for (int phase = 0; phase < 4; phase++) {
            RawPictures x = new RawPictures();
            x.raw(6, 4, phase);
            x.scene(6, 3, 200);
            for (int i = 0; i < 24; i++) {
                due("phase " + phase + " square " + i, value(x, i % 6, i / 6), i % 2 == 0 ? 3 : 200);
            }
        }
    }

    private static void sceneWakesTheDead() {
        says("SCENES: DEAD ones are not any more");
        for (int kind = 0; kind <= 6; kind++) {
            RawPictures x = new RawPictures();
            x.dead(0, 0, true);
            x.dead(3, 3, true);
            yes("kind " + kind, x.scene(kind, 1, 1));
            due("none is DEAD", x.rawIs(3), 0);
        }
    }

    private static RawPictures truthOf(int w, int h, int phase, int kind) {
        RawPictures x = new RawPictures();
        x.raw(w, h, phase);
        feedBytes(x, 10, 20, 30, 110, 120, 130);
        yes("truth of kind " + kind, x.truth(kind));
        return x;
    }

    /** Which of the two sets above a SQUARE has: 1 or 2. */
    private static int set(RawPictures x, int atX, int atY) {
        int rest = value(x, atX, atY) - 10 - 10 * x.colour(atX, atY);
        return rest == 0 ? 1 : rest == 100 ? 2 : 0;
    }

    private static void truthNumbers() {
        says("9: A TRUTH of kind 0 to 5 by the first six bytes of the tape (empty then); false: the tape stays");
        RawPictures x = new RawPictures();
        for (int kind = 0; kind <= 5; kind++) {
            no("it has not so many, kind " + kind, x.truth(kind));
        }
        x.dead(2, 2, true);
        x.pixel(0, 0, 5);
        x.feed(0x01020304, 0x0506ffff, -1, -1, -1);
        for (int kind : new int[] {LOW, -1, 6, 7, HIGH}) {
            no("kind " + kind, x.truth(kind));
            due("the tape stays", x.count(1), 20);
        }
        due("the VALUES stay", x.rawIs(4), 5);
        due("DEAD stays", x.rawIs(3), 1);
        for (int i = 0; i < 6; i++) {
            x.feed(-1, -1, -1, -1, -1);
        }
        yes("of 140 bytes the first six", x.truth(0));
        due("empty, all of it", x.count(1), 0);
        due("RED, GREEN, BLUE of the first set", x.rawIs(4), 4 + 8 * 2 + 4 * 3);
        no("nothing is left for another", x.truth(0));
        due("VALUES stay", x.rawIs(4), 32);
    }

    private static void truthHalves() {
        says("TRUTH: kind 0 the first set");
        due("the last SQUARE", set(truthOf(4, 4, 0, 0), 3, 3), 1);
        due("all", truthOf(4, 4, 0, 0).rawIs(4), 4 * 10 + 8 * 20 + 4 * 30);
        for (int side = 4; side <= 16; side += 2) {
            says("TRUTH: 1 the first where X is below half of W, else the second");
            RawPictures x = truthOf(side, 4, 0, 1);
            due("below half of " + side, set(x, side / 2 - 1, 3), 1);
            due("half of " + side, set(x, side / 2, 0), 2);
            says("TRUTH: 3 where Y is below half of H");
            x = truthOf(4, side, 0, 3);
            due("below half of " + side, set(x, 3, side / 2 - 1), 1);
            due("half of " + side, set(x, 0, side / 2), 2);
        }
        says("TRUTH: 2 where X + Y is below half of W + H");
        RawPictures x = truthOf(6, 4, 0, 2);
        int[][] four = {{4, 0}, {3, 1}, {2, 2}, {1, 3}};
        for (int[] s : four) {
            due("4 is below 5", set(x, s[0], s[1]), 1);
            due("5 is not", set(x, s[0] + 1, s[1]), 2);
        }
    }

    private static void truthChequered() {
        says("TRUTH: 4 where X by 2 and Y by 2 are together even");
        RawPictures x = truthOf(6, 8, 0, 4);
        for (int i = 0; i < 48; i++) {
            int blocks = i % 6 / 2 + i / 6 / 2;
            due("square " + i % 6 + ", " + i / 6, set(x, i % 6, i / 6), blocks % 2 == 0 ? 1 : 2);
        }
    }

    private static void truthSloped() {
        says("TRUTH: 5 the first and ((second less first) times X) by (W less 1)");
        RawPictures x = new RawPictures();
        x.raw(6, 4, 0);
        feedBytes(x, 0, 255, 9, 255, 0, 9);
        x.truth(5);
        int[] red = {0, 51, 102, 153, 204, 255};
        for (int i = 0; i < 6; i++) {
            int want = i % 2 == 0 ? red[i] : 255 - red[i];
            due("row 0, column " + i, value(x, i, 0), want);
            due("row 1, column " + i, value(x, i, 1), i % 2 == 0 ? 255 - red[i] : 9);
        }
        says("what is divided is cut towards 0");
        x.raw(16, 4, 0);
        feedBytes(x, 100, 100, 0, 99, 99, 1);
        x.truth(5);
        due("100 less 14 by 15", value(x, 14, 0), 100);
        due("100 less 15 by 15", value(x, 15, 0), 99);
        due("0 and 13 by 15", value(x, 13, 1), 0);
        due("0 and 15 by 15", value(x, 15, 1), 1);
    }

    private static void truthOfThePhase() {
        says("TRUTH: The RAW gets of it each SQUARE's own COLOUR");
        for (int phase = 0; phase < 4; phase++) {
            RawPictures x = truthOf(4, 4, phase, 0);
            int[] first = {10, 20, 20, 30};
            due("the first of phase " + phase, value(x, 0, 0), first[phase]);
            for (int i = 0; i < 16; i++) {
                due("phase " + phase + " square " + i, set(x, i % 4, i / 4), 1);
            }
            tell(x, "f:0");
            due("no error of it", x.error(1, 0, 0) + x.error(1, 1, 0) + x.error(1, 2, 0), 0);
        }
    }

    private static void truthWakesTheDead() {
        says("TRUTH: (none DEAD)");
        for (int kind = 0; kind <= 5; kind++) {
            RawPictures x = new RawPictures();
            x.dead(0, 0, true);
            x.dead(3, 2, true);
            feedBytes(x, 1, 2, 3, 4, 5, 6);
            yes("kind " + kind, x.truth(kind));
            due("none is", x.rawIs(3), 0);
        }
    }

    private static RawPictures known() {
        RawPictures x = with(4, 4, 0, "f:0");
        x.keep();
        plain(x, 10, 20, 30);
        due("it is known", x.error(1, 1, 0), 0);
        return x;
    }

    private static void truthGoes() {
        says("TRUTH: gone when the RAW is told, changed otherwise");
        RawPictures x = known();
        x.raw(4, 4, 0);
        due("by raw()", x.error(1, 1, 0), -4);
        x = known();
        x.feed(0x0a140a14, 0, 0, 0, 0);
        x.row(0);
        due("by row()", x.error(1, 1, 0), -4);
        x = known();
        x.pixel(3, 3, 31);
        due("by pixel()", x.error(1, 1, 0), -4);
        x = known();
        x.scene(0, 1, 1);
        due("by scene()", x.error(1, 1, 0), -4);
        x = known();
        x.dead(3, 3, true);
        due("by dead()", x.error(1, 1, 0), -4);
        x = known();
        x.undo();
        due("by undo()", x.error(1, 1, 0), -4);
        x = known();
        x.pixel(0, 0, 1);
        plain(x, 10, 20, 30);
        due("there again", x.error(1, 1, 0), 0);
        feedBytes(x, 40, 50, 60, 0, 0, 0);
        x.truth(0);
        due("another in its place", x.error(1, 2, 1), 0);
    }

    private static void truthStays() {
        says("TRUTH: what does not change the RAW leaves it");
        RawPictures x = known();
        x.raw(4, 5, 0);
        x.row(0);
        x.pixel(4, 0, 0);
        x.pixel(0, 0, 256);
        x.scene(7, 0, 0);
        x.scene(0, 0, 256);
        x.dead(0, 4, true);
        x.truth(6);
        x.truth(0);
        due("refused calls", x.error(1, 1, 0), 0);
        x.feed(0, 0, 0, 0, 0);
        x.truth(6);
        x.row(4);
        x.check(4);
        x.seed(9);
        x.keep();
        x.without(1, 0);
        x.best(1, 0);
        tell(x, "b:1;f:1");
        due("calls that are not told there: 16 off", x.error(2, 1, 1), 16);
        RawPictures y = with(4, 4, 0, "f:0");
        plain(y, 10, 20, 30);
        no("an undo() that is refused", y.undo());
        due("it stays", y.error(1, 1, 0), 0);
    }

    private static void whatTheRawIs() {
        says("10: What 0 W, 1 H, 2 PHASE, 3 DEAD ones, 4 all VALUES together; 5, 6, 7 SQUARES of a COLOUR; NONE: no such what");
        RawPictures x = new RawPictures();
        x.raw(16, 16, 3);
        x.scene(0, 255, 0);
        for (int i = 0; i < 256; i++) {
            x.dead(i % 16, i / 16, true);
        }
        int[] want = {16, 16, 3, 256, 65280, 64, 128, 64};
        for (int what = 0; what < 8; what++) {
            due("what " + what, x.rawIs(what), want[what]);
        }
        for (int what : new int[] {LOW, -1, 8, 9, HIGH}) {
            due("what " + what, x.rawIs(what), -1);
        }
        for (int phase = 0; phase < 4; phase++) {
            x.raw(6, 10, phase);
            due("RED of phase " + phase, x.rawIs(5), 15);
            due("GREEN of phase " + phase, x.rawIs(6), 30);
            due("BLUE of phase " + phase, x.rawIs(7), 15);
        }
    }

    private static void coloursOfPhases() {
        says("u = (X + P) modulo 2, v = (Y + P by 2, cut) modulo 2: RED (u and v 0), BLUE (both 1), else GREEN");
        String[] firstTwoRows = {"0112", "1021", "1201", "2110"};
        for (int phase = 0; phase < 4; phase++) {
            RawPictures x = new RawPictures();
            x.raw(6, 4, phase);
            for (int i = 0; i < 24; i++) {
                int want = firstTwoRows[phase].charAt(i / 6 % 2 * 2 + i % 2) - '0';
                due("phase " + phase + " at " + i % 6 + ", " + i / 6, x.colour(i % 6, i / 6), want);
            }
        }
        says("11: NONE: no such one");
        RawPictures x = new RawPictures();
        x.raw(6, 4, 0);
        due("X 6", x.colour(6, 0), -1);
        due("Y 4", x.colour(0, 4), -1);
        due("X -1", x.colour(-1, 1), -1);
        due("Y -1", x.colour(1, -1), -1);
        for (int far : FAR) {
            due("X " + far, x.colour(far, 0), -1);
            due("Y " + far, x.colour(0, far), -1);
        }
    }

    private static void seeds() {
        says("35: THE SEED (0 to 65535; X, too): true; false: no such number");
        RawPictures x = new RawPictures();
        for (int good : new int[] {0, 1, 65534, 65535}) {
            yes("seed " + good, x.seed(good));
            due("X", x.count(2), good);
        }
        for (int bad : new int[] {LOW, -1, 65536, 65537, HIGH}) {
            no("seed " + bad, x.seed(bad));
            due("X stays", x.count(2), 65535);
        }
        x.seed(1);
        x.scene(4, 0, 255);
        int first = x.rawIs(4);
        x.scene(4, 0, 255);
        due("others behind it", x.rawIs(4) == first ? 1 : 0, 0);
        x.seed(1);
        x.scene(4, 0, 255);
        due("the same again", x.rawIs(4), first);
    }

    private static void keeps() {
        says("36: KEPT: how many STAGES");
        RawPictures x = new RawPictures();
        due("none", x.keep(), 0);
        tell(x, "f:0");
        due("one", x.keep(), 1);
        tell(x, "b:0;".repeat(11) + "f:0");
        due("twelve", x.keep(), 12);
        due("again", x.keep(), 12);
        due("they stay", x.count(0), 12);
    }

    private static void nothingKept() {
        says("37: false: nothing was KEPT");
        RawPictures x = with(6, 6, 1, "b:1");
        x.scene(0, 5, 0);
        x.seed(3);
        no("undo", x.undo());
        due("W stays", x.rawIs(0), 6);
        due("VALUES stay", x.rawIs(4), 180);
        due("STAGES stay", x.count(0), 1);
        due("X stays", x.count(2), 3);
        x.keep();
        yes("now something is", x.undo());
        yes("and stays so", x.undo());
    }

    private static void undoes() {
        says("KEPT are RAW (VALUES, DEAD, W, H, PHASE), STAGES, X; UNDONE: as they were KEPT last");
        RawPictures x = with(16, 14, 3, "o:2;f:1;y:1,2,3");
        x.scene(1, 3, 5);
        x.dead(15, 13, true);
        x.seed(65535);
        int values = x.rawIs(4);
        int last = value(x, 15, 13);
        x.keep();
        x.feed(1, 2, 3, 4, 5);
        for (int i = 0; i < 3; i++) {
            x.pixel(15, 13, last + 1);
            x.dead(0, 0, true);
            x.dead(15, 13, false);
            x.raw(4, 6, 1);
            x.scene(4, 1, 9);
            if (i == 0) {
                x.stages(0);
                x.feed(1, 2, 3, 4, 5);
            }
            yes("undo " + i, x.undo());
            due("W", x.rawIs(0), 16);
            due("H", x.rawIs(1), 14);
            due("PHASE", x.rawIs(2), 3);
            due("DEAD", x.rawIs(3), 1);
            due("VALUES", x.rawIs(4), values);
            due("the last", value(x, 15, 13), last);
            due("STAGES", x.count(0), 3);
            due("f", x.count(3), 2);
            due("a NUMBER", x.stage(3, 3), 3);
            due("X", x.count(2), 65535);
            due("the tape is as it was", x.count(1), 20);
        }
        says("UNDONE: as they were KEPT last");
        x.seed(7);
        x.raw(4, 4, 0);
        due("kept anew", x.keep(), 3);
        x.seed(8);
        x.raw(8, 8, 0);
        yes("undo", x.undo());
        due("X", x.count(2), 7);
        due("W", x.rawIs(0), 4);
    }

    private static void checks() {
        says("38: CHECK by the first n bytes of the tape (0 to 16; empty then): NONE: right");
        RawPictures x = new RawPictures();
        x.raw(16, 4, 0);
        x.feed(0x01020304, 0x05060708, 0x090a0b0c, 0x0d0e0fff, 0);
        x.row(0);
        for (int n = 0; n <= 16; n++) {
            x.feed(0x01020304, 0x05060708, 0x090a0b0c, 0x0d0e0fff, 0);
            due("the first " + n, x.check(n), -1);
            due("empty then", x.count(1), 0);
        }
        says("38: else the first that is not so");
        for (int n = 1; n <= 16; n++) {
            x.feed(0x01020304, 0x05060708, 0x090a0b0c, 0x0d0e0ffe, 0);
            due("the last of 16 is wrong: " + n, x.check(n), n == 16 ? 15 : -1);
            x.feed(0, 0, 0, 0, 0);
            due("all are wrong: " + n, x.check(n), 0);
            due("empty then", x.count(1), 0);
        }
        x.feed(0x01020305, 0x05060709, 0, 0, 0);
        due("two are wrong", x.check(8), 3);
        x.pixel(0, 1, 77);
        x.feed(0x4d000000, 0, 0, 0, 0);
        due("row 0 alone", x.check(1), 0);
        says("38: -2: no such n, it has not so many (the tape stays)");
        due("1 of an empty tape", x.check(1), -2);
        due("16 of an empty tape", x.check(16), -2);
        due("0 of an empty tape is right", x.check(0), -1);
        x.feed(0, 0, 0, 0, 0);
        for (int n : new int[] {LOW, -1, 17, 20, 21, HIGH}) {
            due("n " + n, x.check(n), -2);
            due("the tape stays", x.count(1), 20);
        }
        says("38: beyond W nothing is");
        for (int w = 4; w < 16; w += 2) {
            x.raw(16, 4, 0);
            x.raw(w, 4, 0);
            for (int n = w - 1; n <= w + 2 && n <= 16; n++) {
                x.check(0);
                x.feed(0, 0, 0, 0, 0);
                due("W " + w + ", n " + n, x.check(n), n > w ? w : -1);
            }
        }
        x.feed(1, 0, 0, 0, 0);
        due("one that is wrong comes ahead of W", x.check(16), 3);
    }

    private static void counts() {
        says("39: 0 STAGES, 1 bytes of the tape, 2 X, 3 the STAGE that is f (0: none). NONE for others");
        RawPictures x = new RawPictures();
        tell(x, "b:0;b:0;b:0;b:0;b:0;b:0;b:0;b:0;b:0;b:0;b:0;f:0");
        due("f is the last", x.count(3), 12);
        tell(x, "f:0;v:1;v:1;v:1;v:1;v:1;v:1;v:1;v:1;v:1;v:1;v:1");
        due("f is the first", x.count(3), 1);
        due("STAGES", x.count(0), 12);
        tell(x, "b:1;d:1;o:1;l:1");
        due("no f", x.count(3), 0);
        due("STAGES", x.count(0), 4);
        for (int i = 0; i < 7; i++) {
            x.feed(0, 0, 0, 0, 0);
        }
        due("bytes", x.count(1), 140);
        for (int what : new int[] {LOW, -1, 4, 5, HIGH}) {
            due("what " + what, x.count(what), -1);
        }
    }

    private static void calls512() {
        says("An object is used for at most 512 calls");
        RawPictures x = new RawPictures();
        for (int i = 1; i <= 510; i++) {
            due("call " + i, x.dead(1, 1, i % 2 == 1), i % 2);
        }
        yes("call 511", x.pixel(3, 3, 255));
        due("call 512", x.rawIs(4), 255);
    }
}
