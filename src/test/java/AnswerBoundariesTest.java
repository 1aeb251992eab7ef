import java.util.HashSet;
import java.util.Set;

/** What the calls answer at their limits: a test for each sentence that names a boundary (promises 13 to 34). */
public final class AnswerBoundariesTest extends Bench {
    public static void main(String[] args) {
        leftAheadOfF();
        leftByTheRaw();
        leftByWhatIsNow();
        foundOnes();
        foundFull();
        groupsAslant();
        groupsAtTheRims();
        darkRows();
        middlesByWhatIsAhead();
        waysOfSquares();
        waysTogether();
        whites();
        bases();
        tones();
        levelsOfBands();
        levelsTold();
        noiseOfBands();
        noiseTold();
        percents();
        bitsOfDifferences();
        bitsRowByRow();
        rings();
        ringsOfNone();
        edgesOfSoMuch();
        edgesOfAllThatCanBe();
        errors();
        errorsBeyondAnInt();
        errorsOfNothing();
        falseByMoreThan();
        placesBeside();
        placesFirst();
        placesOfNone();
        unlikeLevels();
        withoutOne();
        withoutF();
        bestOfLikeOnes();
        bestWithin();
        bestOfEachLetter();
        bestOfNothing();
        end("the answers' boundaries hold");
    }

    /** West 0, east 1600; f:0 leaves GREEN of even rows 0 0 1200 1600, of odd ones 0 400 1600 1600. */
    private static RawPictures step(String text) {
        RawPictures x = with(4, 4, 0, text);
        x.scene(2, 0, 100);
        return x;
    }

    private static void leftAheadOfF() {
        says("13: (ahead of f: -2 but for its own COLOUR)");
        for (int phase = 0; phase < 4; phase++) {
            RawPictures x = with(4, 4, phase, "b:0;f:0;v:1");
            x.scene(0, 5, 0);
            for (int i = 0; i < 4; i++) {
                for (int colour = 0; colour < 3; colour++) {
                    int ahead = x.colour(i % 2, i / 2) == colour ? 80 : -2;
                    due("the RAW", x.left(0, i % 2, i / 2, colour), ahead);
                    due("b", x.left(1, i % 2, i / 2, colour), ahead);
                    due("f", x.left(2, i % 2, i / 2, colour), 80);
                    due("v", x.left(3, i % 2, i / 2, colour), 80);
                }
            }
        }
        RawPictures x = with(4, 4, 0, "b:0;d:0");
        due("without an f all is ahead of it", x.left(2, 0, 0, 1), -2);
    }

    private static void leftByTheRaw() {
        says("13: (0: the RAW): 16 times its VALUE");
        RawPictures x = new RawPictures();
        for (int v = 0; v < 256; v += 5) {
            x.pixel(3, 2, v);
            due("VALUE " + v, x.left(0, 3, 2, 1), 16 * v);
        }
        says("13: NONE: no such ones");
        x.raw(6, 4, 0);
        int[][] bad = {{1, 0, 0, 0}, {-1, 0, 0, 0}, {0, 6, 0, 0}, {0, -1, 0, 1}, {0, 0, 4, 0}, {0, 0, -1, 1}, {0, 0, 0, 3},
            {0, 0, 0, -1}, {LOW, 0, 0, 0}, {HIGH, 0, 0, 0}, {0, LOW, 0, 0}, {0, 0, HIGH, 0}, {0, 0, 0, LOW}};
        for (int[] b : bad) {
            due("left " + b[0] + ", " + b[1] + ", " + b[2] + ", " + b[3], x.left(b[0], b[1], b[2], b[3]), -1);
        }
        due("the last SQUARE", x.left(0, 5, 3, 2), 0);
        tell(x, "b:0;".repeat(11) + "b:0");
        due("the twelfth", x.left(12, 5, 3, 2), 0);
        due("the thirteenth", x.left(13, 5, 3, 2), -1);
    }

    private static void leftByWhatIsNow() {
        says("LEFT by STAGE k: what it makes of what the one ahead LEFT (0: the RAW), as it is now");
        RawPictures x = with(4, 4, 0, "b:1;f:0");
        due("0", x.left(2, 3, 3, 2), 0);
        x.pixel(3, 3, 10);
        due("behind pixel()", x.left(2, 3, 3, 2), 144);
        feedBytes(x, 0, 0, 0, 20);
        x.row(3);
        due("behind row()", x.left(2, 3, 3, 2), 304);
        x.scene(0, 30, 0);
        due("behind scene()", x.left(2, 3, 3, 2), 464);
        plain(x, 0, 0, 40);
        due("behind truth()", x.left(2, 3, 3, 2), 624);
        x.keep();
        x.raw(4, 4, 0);
        due("behind raw()", x.left(2, 3, 3, 2), 0);
        x.undo();
        due("behind undo()", x.left(2, 3, 3, 2), 624);
        tell(x, "b:2;f:0");
        due("behind stages()", x.left(2, 3, 3, 2), 608);
        tell(x, "d:255;f:0");
        x.pixel(3, 3, 99);
        due("not DEAD", x.left(2, 3, 3, 2), 1584);
        x.dead(3, 3, true);
        due("behind dead()", x.left(2, 3, 3, 2), 640);
    }

    private static void foundOnes() {
        says("14: what 0 how many, 1 of these DEAD, 2 the first (16 Y and X, by Y, then X; none: -2), 3 the last");
        RawPictures x = with(6, 4, 0, "b:0;d:255;f:0");
        due("none", x.found(2, 0), 0);
        due("none DEAD", x.found(2, 1), 0);
        due("no first", x.found(2, 2), -2);
        due("no last", x.found(2, 3), -2);
        x.dead(5, 0, true);
        due("one is the first", x.found(2, 2), 5);
        due("and the last", x.found(2, 3), 5);
        x.dead(0, 1, true);
        due("by Y, then X: the first", x.found(2, 2), 5);
        due("by Y, then X: the last", x.found(2, 3), 16);
        x.dead(0, 0, true);
        x.dead(5, 3, true);
        due("0, 0 is the first", x.found(2, 2), 0);
        due("5, 3 is the last", x.found(2, 3), 53);
        x = with(10, 10, 0, "d:9;d:9");
        x.pixel(4, 4, 100);
        x.dead(9, 0, true);
        x.dead(0, 1, true);
        due("three", x.found(1, 0), 3);
        due("two of these DEAD", x.found(1, 1), 2);
        due("the last", x.found(1, 3), 68);
        says("14: FOUND by STAGE k, by what is ahead of it");
        due("by the second the DEAD ones alone", x.found(2, 0), 2);
        due("the last of these", x.found(2, 3), 16);
        int[][] shapes = {{4, 16}, {16, 4}};
        for (int[] shape : shapes) {
            x = with(shape[0], shape[1], 0, "d:255");
            x.dead(shape[0] - 1, shape[1] - 1, true);
            due("the last of all is the first", x.found(1, 2), 16 * (shape[1] - 1) + shape[0] - 1);
            due("and the last", x.found(1, 3), 16 * (shape[1] - 1) + shape[0] - 1);
        }
        says("14: -3: it is no d; NONE: no such ones");
        tell(x, "b:0;d:255;o:1;l:1;f:0");
        for (int k : new int[] {1, 3, 4, 5}) {
            due("stage " + k, x.found(k, 0), -3);
            due("stage " + k + ", what 4: NONE comes first", x.found(k, 4), -1);
        }
        int[][] bad = {{0, 0}, {6, 0}, {-1, 0}, {2, -1}, {2, 4}, {LOW, 0}, {HIGH, 0}, {2, LOW}, {2, HIGH}};
        for (int[] b : bad) {
            due("found " + b[0] + ", " + b[1], x.found(b[0], b[1]), -1);
        }
    }

    private static void foundFull() {
        says("14, 15: all 256 SQUARES");
        RawPictures x = with(16, 16, 0, "d:0");
        for (int i = 0; i < 256; i++) {
            x.dead(i % 16, i / 16, true);
        }
        due("how many", x.found(1, 0), 256);
        due("DEAD", x.found(1, 1), 256);
        due("the first", x.found(1, 2), 0);
        due("the last", x.found(1, 3), 255);
        due("one group", x.groups(1, 0), 1);
        due("its SQUARES", x.groups(1, 1), 256);
    }

    private static void groupsAslant() {
        says("GROUPS: those that hang together by SQUARES beside or aslant (8)");
        int[][] beside = {{1, 0}, {0, 1}, {1, 1}, {-1, 1}, {-1, 0}, {0, -1}, {-1, -1}, {1, -1}};
        for (int[] b : beside) {
            RawPictures x = with(8, 8, 0, "d:255");
            x.dead(3, 3, true);
            x.dead(3 + b[0], 3 + b[1], true);
            due("one, by " + b[0] + ", " + b[1], x.groups(1, 0), 1);
            due("of two", x.groups(1, 1), 2);
        }
        int[][] away = {{2, 0}, {0, 2}, {2, 1}, {1, 2}, {2, 2}, {-2, 1}};
        for (int[] a : away) {
            RawPictures x = with(8, 8, 0, "d:255");
            x.dead(3, 3, true);
            x.dead(3 + a[0], 3 + a[1], true);
            due("two, by " + a[0] + ", " + a[1], x.groups(1, 0), 2);
            due("of one each", x.groups(1, 1), 1);
        }
        RawPictures x = with(4, 4, 0, "d:255");
        due("none", x.groups(1, 0), 0);
        due("none is the largest", x.groups(1, 1), 0);
        for (int i = 0; i < 16; i++) {
            x.dead(i % 4, i / 4, (i % 4 + i / 4) % 2 == 0);
        }
        due("chequered: one", x.groups(1, 0), 1);
        due("of eight", x.groups(1, 1), 8);
    }

    private static void groupsAtTheRims() {
        says("15: SQUARES at the end of a row and at the start of the next do not hang together");
        RawPictures x = with(16, 4, 0, "d:255");
        x.dead(15, 0, true);
        x.dead(0, 1, true);
        x.dead(0, 3, true);
        x.dead(15, 3, true);
        due("four", x.groups(1, 0), 4);
        due("of one", x.groups(1, 1), 1);
        x.dead(1, 2, true);
        due("0, 1 and 1, 2 and 0, 3", x.groups(1, 0), 3);
        due("of three, the largest", x.groups(1, 1), 3);
        says("15: round a bend, past one that is two SQUARES away");
        x = with(6, 6, 0, "d:255");
        int[][] bend = {{0, 0}, {0, 1}, {0, 2}, {1, 3}, {2, 2}};
        for (int[] b : bend) {
            x.dead(b[0], b[1], true);
        }
        due("one", x.groups(1, 0), 1);
        due("of five", x.groups(1, 1), 5);
        x.dead(2, 0, true);
        due("two", x.groups(1, 0), 2);
        due("of five still", x.groups(1, 1), 5);
        says("15: -3: it is no d; NONE: no such ones");
        tell(x, "b:1;d:1;f:0");
        due("b", x.groups(1, 0), -3);
        due("f", x.groups(3, 1), -3);
        int[][] bad = {{0, 0}, {4, 0}, {-1, 1}, {1, 2}, {3, -1}, {LOW, 0}, {HIGH, 1}, {2, LOW}, {2, HIGH}};
        for (int[] b : bad) {
            due("groups " + b[0] + ", " + b[1], x.groups(b[0], b[1]), -1);
        }
    }

    private static void darkRows() {
        says("16: DARK by which STAGE k takes off of row y; -3: it is no o; NONE: no such ones");
        RawPictures x = with(4, 16, 0, "b:1;o:2;f:0");
        for (int y = 0; y < 16; y++) {
            feedBytes(x, y, 2 * y, 99, 99);
            x.row(y);
        }
        due("row 0, less than b", x.dark(2, 0), 0);
        due("row 1: 0 and 16", x.dark(2, 1), 8);
        due("row 15: 224 and 464", x.dark(2, 15), 344);
        due("it is taken off of row 15", x.left(2, 3, 15, 2), 1568 - 344);
        due("no row 16", x.dark(2, 16), -1);
        due("no row -1", x.dark(2, -1), -1);
        due("b", x.dark(1, 0), -3);
        due("f", x.dark(3, 15), -3);
        due("b, no row: NONE comes first", x.dark(1, 16), -1);
        for (int k : new int[] {LOW, -1, 0, 4, HIGH}) {
            due("stage " + k, x.dark(k, 0), -1);
        }
        due("row far above", x.dark(2, HIGH), -1);
        due("row far below", x.dark(2, LOW), -1);
        x.raw(4, 4, 0);
        due("row 4 of a smaller one", x.dark(2, 4), -1);
    }

    private static void middlesByWhatIsAhead() {
        says("17: MIDDLE by what is ahead of STAGE k; -3: it is no d; NONE: no such ones");
        RawPictures x = with(6, 4, 0, "b:5;d:255;d:255;f:0");
        x.scene(0, 9, 0);
        due("of 64", x.middle(2, 5, 3), 64);
        x.pixel(0, 0, 255);
        x.pixel(4, 0, 255);
        x.pixel(2, 2, 255);
        x.dead(4, 0, true);
        due("of 4000, 4000, 4000, 4000", x.middle(2, 2, 0), 4000);
        due("by what the first d left: 4000, 64, 4000, 4000", x.middle(3, 2, 0), 4000);
        due("b", x.middle(1, 0, 0), -3);
        due("f", x.middle(4, 0, 0), -3);
        int[][] bad = {{0, 0, 0}, {5, 0, 0}, {1, 6, 0}, {4, 0, 4}, {2, -1, 0}, {2, 0, -1}, {2, 6, 0}, {2, 0, 4}, {LOW, 0, 0},
            {HIGH, 0, 0}, {2, HIGH, 0}, {2, 0, LOW}};
        for (int[] b : bad) {
            due("middle " + b[0] + ", " + b[1] + ", " + b[2], x.middle(b[0], b[1], b[2]), -1);
        }
    }

    private static void waysOfSquares() {
        says("18: 0 west and east, 1 north and south, 2 all four; -2: it is GREEN; -3: there is no f:1; NONE: no such SQUARE");
        for (int phase = 0; phase < 4; phase++) {
            RawPictures x = with(6, 4, phase, "f:1");
            for (int i = 0; i < 24; i++) {
                due("phase " + phase + " square " + i, x.way(i % 6, i / 6), x.colour(i % 6, i / 6) == 1 ? -2 : 2);
            }
            x.scene(1, 0, 50);
            for (int i = 0; i < 24; i++) {
                due("rows, phase " + phase + " square " + i, x.way(i % 6, i / 6), x.colour(i % 6, i / 6) == 1 ? -2 : 0);
            }
            x.scene(1, 30, 0);
            for (int i = 0; i < 24; i++) {
                due("columns, phase " + phase + " square " + i, x.way(i % 6, i / 6), x.colour(i % 6, i / 6) == 1 ? -2 : 1);
            }
        }
        RawPictures x = with(6, 4, 0, "f:1");
        int[][] bad = {{6, 0}, {0, 4}, {-1, 1}, {1, -1}, {LOW, 0}, {HIGH, 0}, {0, LOW}, {0, HIGH}};
        for (int[] b : bad) {
            due("f:1, way " + b[0] + ", " + b[1], x.way(b[0], b[1]), -1);
        }
        for (String text : new String[] {"f:0", "b:1", "f:0;v:1", ""}) {
            tell(x, text);
            x.stages(text.isEmpty() ? 0 : -1);
            due("no f:1: " + text, x.way(0, 0), -3);
            due("no f:1, a BLUE one: " + text, x.way(1, 1), -3);
            due("no f:1, no such SQUARE: NONE comes first: " + text, x.way(6, 0), -1);
        }
        says("18: by what is ahead of f");
        tell(x, "b:0;b:255;f:1");
        x.scene(1, 30, 0);
        due("b:255 leaves all alike", x.way(2, 2), 2);
        due("all are", x.ways(2), 12);
        tell(x, "b:255;b:0;f:1");
        due("the first b, too", x.way(2, 2), 2);
    }

    private static void waysTogether() {
        says("19: How many SQUARES were filled by f:1, what as way() 0 to 2; -3: there is no f:1; NONE: no such what");
        RawPictures x = with(16, 16, 1, "f:1");
        due("all four", x.ways(2), 128);
        due("none across", x.ways(0), 0);
        due("none down", x.ways(1), 0);
        x.scene(1, 0, 3);
        due("rows", x.ways(0), 128);
        x.scene(1, 3, 0);
        due("columns", x.ways(1), 128);
        x.raw(12, 12, 1);
        x.scene(4, 0, 255);
        int[] want = new int[3];
        for (int i = 0; i < 144; i++) {
            if (x.colour(i % 12, i / 12) != 1) {
                want[x.way(i % 12, i / 12)]++;
            }
        }
        for (int what = 0; what <= 2; what++) {
            due("as way() tells, " + what, x.ways(what), want[what]);
        }
        due("together all that are not GREEN", x.ways(0) + x.ways(1) + x.ways(2), 72);
        for (int what : new int[] {LOW, -1, 3, HIGH}) {
            due("what " + what, x.ways(what), -1);
        }
        for (String text : new String[] {"f:0", "b:1"}) {
            tell(x, text);
            for (int what = 0; what <= 2; what++) {
                due("no f:1, what " + what, x.ways(what), -3);
            }
            due("what 3: NONE comes first", x.ways(3), -1);
        }
        x.stages(0);
        due("no stages", x.ways(0), -3);
    }

    private static void whites() {
        says("20: what 0 GAIN of RED, 1 of BLUE, 2 how many are GREY; -3: it is no w; NONE: no such ones");
        RawPictures x = with(16, 16, 2, "b:0;f:0;w:255;g:16,16,16;w:0");
        plain(x, 50, 100, 200);
        due("RED", x.white(3, 0), 512);
        due("BLUE", x.white(3, 1), 128);
        due("GREY", x.white(3, 2), 256);
        due("by what is ahead of the second: RED", x.white(5, 0), 256);
        due("GREY of the second", x.white(5, 2), 256);
        for (int k : new int[] {1, 2, 4}) {
            due("stage " + k, x.white(k, 0), -3);
            due("stage " + k + ", what 3: NONE comes first", x.white(k, 3), -1);
        }
        int[][] bad = {{0, 0}, {6, 0}, {-1, 0}, {3, 3}, {3, -1}, {LOW, 0}, {HIGH, 0}, {3, LOW}, {3, HIGH}};
        for (int[] b : bad) {
            due("white " + b[0] + ", " + b[1], x.white(b[0], b[1]), -1);
        }
    }

    private static void bases() {
        says("21: BASE of the BLOCK of a SQUARE by STAGE k; -3: it is no p; NONE: no such ones");
        RawPictures x = step("f:0;p:1,32;p:2,0");
        due("the last of the first BLOCK", x.base(2, 1, 1), 100);
        due("the first of the next one", x.base(2, 2, 1), 1575);
        due("the last of all", x.base(2, 3, 3), 1575);
        due("f", x.base(1, 0, 0), -3);
        int[][] bad = {{0, 0, 0}, {4, 0, 0}, {2, 4, 0}, {2, 0, 4}, {2, -1, 0}, {2, 0, -1}, {1, 4, 0}, {LOW, 0, 0}, {HIGH, 0, 0},
            {2, LOW, 0}, {2, 0, HIGH}};
        for (int[] b : bad) {
            due("base " + b[0] + ", " + b[1] + ", " + b[2], x.base(b[0], b[1], b[2]), -1);
        }
    }

    private static void tones() {
        says("22: FLOOR floor (0 to 3) of a SQUARE by STAGE k, 4: its TONE; -3: it is no y; NONE: no such ones");
        RawPictures x = step("f:0;y:16,16,16;y:0,16,0");
        int[][] floors = {{0, 100, 837, 837, 0}, {1700, 1575, 837, 837, 1700}};
        for (int f = 0; f <= 4; f++) {
            due("floor " + f + " of 0, 0", x.tone(2, f, 0, 0), floors[0][f]);
            due("floor " + f + " of 3, 3", x.tone(2, f, 3, 3), floors[1][f]);
        }
        due("of the second: FLOOR 1 alone", x.tone(3, 4, 3, 3), 1575);
        x.scene(4, 0, 255);
        for (int i = 0; i < 16; i++) {
            int light = (x.left(1, i % 4, i / 4, 0) + x.left(1, i % 4, i / 4, 2) + 2 * x.left(1, i % 4, i / 4, 1)) / 4;
            due("floor 0 is LIGHT at " + i, x.tone(2, 0, i % 4, i / 4), light);
        }
        due("f", x.tone(1, 0, 0, 0), -3);
        due("f, TONE", x.tone(1, 4, 0, 0), -3);
        int[][] bad = {{0, 0, 0, 0}, {4, 0, 0, 0}, {1, 5, 0, 0}, {1, -1, 0, 0}, {2, 5, 0, 0}, {2, -1, 0, 0}, {2, 0, 4, 0},
            {2, 0, 0, 4}, {2, 0, -1, 0}, {2, 0, 0, -1}, {1, 0, 4, 0}, {LOW, 0, 0, 0}, {HIGH, 0, 0, 0}, {2, LOW, 0, 0},
            {2, HIGH, 0, 0}, {2, 0, HIGH, 0}, {2, 0, 0, LOW}};
        for (int[] b : bad) {
            due("tone " + b[0] + ", " + b[1] + ", " + b[2] + ", " + b[3], x.tone(b[0], b[1], b[2], b[3]), -1);
        }
    }

    private static void levelsOfBands() {
        says("23: 10 + i how many are 256 i to 256 i and 255 (i 0 to 15)");
        RawPictures x = new RawPictures();
        for (int i = 0; i < 16; i++) {
            x.scene(0, 16 * (15 - i), 0);
            x.pixel(0, 0, 16 * i);
            x.pixel(2, 2, 16 * i + 15);
            due("the first and the last of " + i, x.levels(0, 0, 10 + i), 2);
            due("the others", x.levels(0, 0, 10 + 15 - i), 2);
        }
        x = with(4, 4, 0, "f:0;g:1,1,1");
        x.scene(0, 255, 0);
        due("255 is in the first", x.levels(2, 1, 10), 16);
        due("not in the next", x.levels(2, 1, 11), 0);
        tell(x, "f:0;g:99,16,16");
        x.scene(0, 16, 0);
        due("256 is in the second", x.levels(2, 1, 11), 16);
        due("not in the first", x.levels(2, 1, 10), 0);
        x.scene(0, 255, 0);
        due("TOP is in the last", x.levels(2, 0, 25), 16);
        due("4080 is in the last", x.levels(2, 1, 25), 16);
        for (int what : new int[] {LOW, -1, 6, 7, 8, 9, 26, 27, HIGH}) {
            due("what " + what, x.levels(2, 0, what), -1);
        }
        int[][] bad = {{-1, 0}, {3, 0}, {0, 3}, {0, -1}, {LOW, 0}, {HIGH, 0}, {0, LOW}, {0, HIGH}};
        for (int[] b : bad) {
            due("levels " + b[0] + ", " + b[1], x.levels(b[0], b[1], 0), -1);
        }
    }

    private static void levelsTold() {
        says("23: what 0 the least LEVEL, 1 the greatest, 2 all together, 3 how many unlike ones, 4 how many are TOP, 5 how many 0");
        RawPictures x = with(16, 16, 0, "f:0;g:99,16,0");
        x.scene(1, 1, 16);
        due("64 unlike REDS", x.levels(0, 0, 3), 64);
        due("128 unlike GREENS", x.levels(0, 1, 3), 128);
        due("the least GREEN", x.levels(0, 1, 0), 16);
        due("the greatest GREEN", x.levels(0, 1, 1), 16 * 254);
        due("the greatest RED", x.levels(0, 0, 1), 16 * 238);
        due("the least BLUE", x.levels(0, 2, 0), 16 * 17);
        due("one RED is 0", x.levels(0, 0, 5), 1);
        due("no GREEN is", x.levels(0, 1, 5), 0);
        x.scene(0, 255, 0);
        due("all GREENS behind f together", x.levels(1, 1, 2), 256 * 4080);
        due("REDS ahead of it", x.levels(0, 0, 2), 64 * 4080);
        due("all alike", x.levels(1, 1, 3), 1);
        due("4080 is not TOP", x.levels(1, 0, 4), 0);
        due("TOP", x.levels(2, 0, 4), 256);
        due("0", x.levels(2, 2, 5), 256);
        due("the greatest of 0", x.levels(2, 2, 1), 0);
        due("the least of TOP", x.levels(2, 0, 0), 4095);
        x.raw(4, 4, 0);
        tell(x, "f:0;g:1,1,1");
        rows(x, new int[] {0, 0, 0, 63}, new int[] {64, 0, 65, 0}, new int[] {0, 0, 0, 63}, new int[] {64, 0, 65, 0});
        Set<Integer> unlike = new HashSet<>();
        for (int i = 0; i < 16; i++) {
            unlike.add(x.left(2, i % 4, i / 4, 1));
        }
        due("unlike ones, 0, 63, 64, 65 among them", x.levels(2, 1, 3), unlike.size());
        says("23: (ahead of f: of SQUARES of it alone)");
        x.raw(4, 4, 3);
        x.scene(5, 7, 200);
        due("REDS", x.levels(0, 0, 2), 4 * 3200);
        due("GREENS", x.levels(0, 1, 2), 8 * 112);
        due("BLUES", x.levels(0, 2, 1), 112);
    }

    private static void noiseOfBands() {
        says("BAND of a LEVEL: its BLUR by 1024 (0 to 3)");
        RawPictures x = with(4, 4, 0, "f:0;g:99,99,99");
        int[][] flat = {{0, 0}, {63, 0}, {64, 1}, {127, 1}, {128, 2}, {191, 2}, {192, 3}, {255, 3}};
        for (int[] f : flat) {
            x.scene(0, f[0], 0);
            for (int b = 0; b <= 3; b++) {
                due("VALUE " + f[0] + ", BAND " + b, x.noise(1, 2, b, 0), b == f[1] ? 16 : 0);
            }
            due("all", x.noise(1, 2, 4, 0), 16);
        }
        due("TOP is BAND 3", x.noise(2, 0, 3, 0), 16);
    }

    private static void noiseTold() {
        says("24: in BAND b (4: all), what 0 how many LEVELS, 1 NOISE, 2 the greatest DETAIL without its sign");
        // DETAILS of even rows -100 -450 50 100, of odd ones -100 -50 450 100; BLUR is above 1023 from X 2 on
        RawPictures x = step("b:0;f:0");
        int[][] want = {{8, 1400, 450}, {8, 1400, 450}, {0, 0, 0}, {0, 0, 0}, {16, 2800, 450}};
        for (int b = 0; b <= 4; b++) {
            for (int what = 0; what <= 2; what++) {
                due("BAND " + b + ", what " + what, x.noise(2, 1, b, what), want[b][what]);
            }
        }
        says("24: -3: it is ahead of f; NONE: no such ones");
        due("the RAW", x.noise(0, 1, 4, 1), -3);
        due("b", x.noise(1, 1, 4, 1), -3);
        int[][] bad = {{-1, 0, 0, 0}, {3, 0, 0, 0}, {2, 3, 0, 0}, {2, -1, 0, 0}, {2, 0, 5, 0}, {2, 0, -1, 0}, {2, 0, 0, 3},
            {2, 0, 0, -1}, {0, 3, 0, 0}, {0, 0, 5, 0}, {1, 0, 0, 3}, {LOW, 0, 0, 0}, {HIGH, 0, 0, 0}, {2, LOW, 0, 0},
            {2, HIGH, 0, 0}, {2, 0, LOW, 0}, {2, 0, HIGH, 0}, {2, 0, 0, LOW}, {2, 0, 0, HIGH}};
        for (int[] b : bad) {
            due("noise " + b[0] + ", " + b[1] + ", " + b[2] + ", " + b[3], x.noise(b[0], b[1], b[2], b[3]), -1);
        }
        tell(x, "b:0;d:0");
        due("without an f", x.noise(2, 0, 4, 0), -3);
    }

    private static void percents() {
        says("PERCENT p: the least LEVEL such that of its LEVELS at least p hundredths are no greater");
        RawPictures x = with(4, 4, 0, "f:0");
        int[][] greens = {{1, 0}, {3, 0}, {0, 1}, {2, 1}, {1, 2}, {3, 2}, {0, 3}, {2, 3}};
        int[] value = {80, 10, 70, 20, 60, 30, 50, 40};
        for (int i = 0; i < 8; i++) {
            x.pixel(greens[i][0], greens[i][1], value[i]);
        }
        for (int p = 1; p <= 100; p++) {
            int many = 1;
            while (100 * many < 8 * p) {
                many++;
            }
            due("of eight, " + p, x.percent(0, 1, p), 160 * many);
        }
        due("12 of 100 is the first", x.percent(0, 1, 12), 160);
        due("13 of 100 is the second", x.percent(0, 1, 13), 320);
        due("100 is the greatest", x.percent(0, 1, 100), 1280);
        due("of 0 alone", x.percent(0, 0, 100), 0);
        says("25: p (1 to 100); NONE: no such ones");
        int[][] bad = {{0, 0, 0}, {0, 0, 101}, {0, 0, -1}, {-1, 0, 1}, {2, 0, 1}, {0, 3, 1}, {0, -1, 1}, {0, 0, LOW}, {0, 0, HIGH},
            {LOW, 0, 1}, {HIGH, 0, 1}, {0, LOW, 1}, {0, HIGH, 1}};
        for (int[] b : bad) {
            due("percent " + b[0] + ", " + b[1] + ", " + b[2], x.percent(b[0], b[1], b[2]), -1);
        }
        x = with(16, 16, 0, "f:0;g:99,99,99");
        x.scene(1, 1, 16);
        due("of 128 GREENS 1 hundredth: the second", x.percent(0, 1, 1), 48);
        x.scene(0, 255, 0);
        due("TOP", x.percent(2, 1, 1), 4095);
    }

    private static void bitsOfDifferences() {
        says("BITS: of each LEVEL by 16 the difference: 1 for 0, else 1 and 2 times its binary digits without its sign");
        int[][] value = {{0, 1}, {1, 3}, {2, 5}, {3, 5}, {4, 7}, {7, 7}, {8, 9}, {15, 9}, {16, 11}, {31, 11}, {32, 13}, {63, 13},
            {64, 15}, {127, 15}, {128, 17}, {255, 17}};
        for (int[] v : value) {
            RawPictures x = new RawPictures();
            x.scene(0, v[0], 0);
            due("of the first from 0: " + v[0], x.bits(0, 0), v[1] + 3);
            x.pixel(2, 0, 0);
            x.pixel(0, 2, 0);
            x.pixel(2, 2, 0);
            due("without its sign: " + v[0], x.bits(0, 0), 2 * v[1] + 2);
        }
        says("BITS: LEVEL by 16, cut");
        RawPictures x = with(4, 4, 0, "f:0;g:1,1,1");
        x.scene(0, 15, 0);
        due("15 by 16", x.bits(2, 1), 16);
        x.scene(0, 16, 0);
        due("16 by 16", x.bits(2, 1), 18);
        says("26: NONE: no such ones");
        int[][] bad = {{-1, 0}, {3, 0}, {0, 3}, {0, -1}, {LOW, 0}, {HIGH, 0}, {0, LOW}, {0, HIGH}};
        for (int[] b : bad) {
            due("bits " + b[0] + ", " + b[1], x.bits(b[0], b[1]), -1);
        }
    }

    private static void bitsRowByRow() {
        says("BITS: row by row, from the one ahead (of the first from 0)");
        RawPictures x = with(4, 4, 0, "f:0");
        x.pixel(0, 2, 1);
        x.pixel(2, 2, 1);
        due("0 0 1 1", x.bits(0, 0), 6);
        x.pixel(2, 0, 1);
        x.pixel(0, 2, 0);
        due("0 1 0 1", x.bits(0, 0), 10);
        says("BITS: (ahead of f: of its SQUARES alone)");
        due("of 8 GREENS", x.bits(0, 1), 8);
        due("behind f of all 16", x.bits(1, 1), 16);
        x.raw(16, 16, 0);
        x.scene(6, 0, 255);
        due("REDS are 0", x.bits(0, 0), 64);
        due("GREENS: each row 255 or 0 eight times", x.bits(0, 1), 16 * 17 + 112);
    }

    /** In which RING a SQUARE of 16 by 16 lies. */
    private static int ringOf(int atX, int atY) {
        RawPictures x = new RawPictures();
        x.raw(16, 16, 0);
        x.pixel(atX, atY, 255);
        int ring = -1;
        for (int i = 0; i < 4; i++) {
            ring = x.ring(0, x.colour(atX, atY), i, 1) > 0 ? i : ring;
        }
        return ring;
    }

    private static void rings() {
        says("RING of a SQUARE: (dx dx + dy dy) times 4 by (W W + H H) (0 to 3)");
        int[][] at = {{7, 7, 0}, {13, 8, 0}, {13, 9, 1}, {8, 13, 0}, {9, 13, 1}, {2, 7, 0}, {2, 6, 1}, {15, 7, 1}, {15, 10, 1},
            {15, 11, 2}, {15, 13, 2}, {15, 14, 3}, {15, 15, 3}, {0, 0, 3}, {15, 0, 3}, {0, 15, 3}};
        for (int[] a : at) {
            due("of " + a[0] + ", " + a[1], ringOf(a[0], a[1]), a[2]);
        }
        RawPictures x = with(4, 4, 0, "f:0");
        int[] all = {4, 8, 4, 0};
        int[] red = {1, 2, 1, 0};
        for (int i = 0; i < 4; i++) {
            due("behind f, RING " + i, x.ring(1, 0, i, 0), all[i]);
            due("RED ahead of f, RING " + i, x.ring(0, 0, i, 0), red[i]);
            due("BLUE ahead of f, RING " + i, x.ring(0, 2, i, 0), red[i]);
            due("GREEN ahead of f, RING " + i, x.ring(0, 1, i, 0), 2 * red[i]);
        }
        says("27: LEVELS together by how many");
        x.pixel(0, 2, 5);
        x.pixel(2, 0, 2);
        due("80 and 32 by 2", x.ring(0, 0, 1, 1), 56);
        tell(x, "b:0;o:3;f:0");
        feedBytes(x, 0, 0, 9, 9);
        x.row(0);
        due("96 and 80 less 26 by 2", x.ring(2, 0, 1, 1), 75);
        due("96 and 80 less 26 less 1 by 2", x.ring(2, 0, 0, 1), 0);
    }

    private static void ringsOfNone() {
        says("27: (none: -2)");
        RawPictures x = with(4, 4, 0, "f:0");
        due("RING 3 of 4 by 4", x.ring(0, 0, 3, 1), -2);
        due("behind f, too", x.ring(1, 1, 3, 1), -2);
        due("how many: 0", x.ring(1, 1, 3, 0), 0);
        due("a mean of 0 is not none", x.ring(1, 1, 2, 1), 0);
        says("27: RING i (0 to 3); NONE: no such ones");
        int[][] bad = {{-1, 0, 0, 0}, {2, 0, 0, 0}, {0, 3, 0, 0}, {0, -1, 0, 0}, {0, 0, 4, 0}, {0, 0, -1, 0}, {0, 0, 0, 2},
            {0, 0, 0, -1}, {0, 0, 3, 2}, {LOW, 0, 0, 0}, {HIGH, 0, 0, 0}, {0, LOW, 0, 0}, {0, HIGH, 0, 0}, {0, 0, LOW, 0},
            {0, 0, HIGH, 0}, {0, 0, 0, LOW}, {0, 0, 0, HIGH}};
        for (int[] b : bad) {
            due("ring " + b[0] + ", " + b[1] + ", " + b[2] + ", " + b[3], x.ring(b[0], b[1], b[2], b[3]), -1);
        }
    }

    private static void edgesOfSoMuch() {
        says("28: an EDGE of so much (0 to 8190) at least");
        // EDGES 1250, 1350, 1650 twice, and eight times 0 at the rims, each in two rows
        RawPictures x = step("b:0;f:0");
        int[][] want = {{0, 16}, {1, 8}, {1250, 8}, {1251, 6}, {1350, 6}, {1351, 4}, {1650, 4}, {1651, 0}, {8190, 0}};
        for (int[] w : want) {
            due("edges of " + w[0], x.edges(2, w[0]), w[1]);
        }
        says("EDGE: MIRRORED");
        x.raw(4, 4, 0);
        x.scene(1, 0, 60);
        due("rows 0 and 3 have none", x.edges(2, 1), 8);
        says("28: -3: it is ahead of f; NONE: no such ones");
        due("the RAW", x.edges(0, 0), -3);
        due("b", x.edges(1, 8190), -3);
        int[][] bad = {{-1, 0}, {3, 0}, {2, -1}, {2, 8191}, {0, 8191}, {1, -1}, {LOW, 0}, {HIGH, 0}, {2, LOW}, {2, HIGH}};
        for (int[] b : bad) {
            due("edges " + b[0] + ", " + b[1], x.edges(b[0], b[1]), -1);
        }
        tell(x, "b:0");
        due("without an f", x.edges(1, 0), -3);
    }

    private static void edgesOfAllThatCanBe() {
        says("28: 8190: TOP less 0 both ways");
        RawPictures x = with(8, 8, 0, "f:0;t:0>0,200>0,201>255,255>255;g:99,99,99");
        x.scene(3, 0, 255);
        due("aslant, but at the rims", x.edges(3, 8190), 5);
    }

    private static void errors() {
        says("29: ERRORS, what 0 all without signs together, 1 the greatest without its sign, 2 their squares together");
        RawPictures x = with(4, 4, 0, "f:0;g:8,16,32");
        plain(x, 10, 20, 30);
        long[][] want = {{1280, 80, 16 * 6400}, {0, 0, 0}, {7680, 480, 16 * 230400}};
        for (int colour = 0; colour < 3; colour++) {
            for (int what = 0; what <= 2; what++) {
                due("COLOUR " + colour + ", what " + what, x.error(2, colour, what), want[colour][what]);
                due("f gives the TRUTH", x.error(1, colour, what), 0);
            }
        }
        says("29: ERROR: LEVEL less 16 times the TRUTH of that SQUARE");
        tell(x, "f:0;g:0,0,0");
        feedBytes(x, 0, 0, 0, 255, 254, 253);
        x.truth(1);
        due("RED: eight of 255", x.error(2, 0, 0), 8 * 4080);
        due("GREEN: eight of 254", x.error(2, 1, 0), 8 * 4064);
        due("BLUE: the greatest", x.error(2, 2, 1), 4048);
    }

    private static void errorsBeyondAnInt() {
        says("29: squares together, a long");
        RawPictures x = with(16, 16, 0, "f:0;t:0>255,255>255;g:99,99,99;g:0,0,0");
        plain(x, 0, 0, 0);
        due("256 times 4095 times 4095", x.error(3, 1, 2), 4292870400L);
        due("256 times 4095", x.error(3, 1, 0), 1048320);
        due("4095", x.error(3, 1, 1), 4095);
        plain(x, 255, 255, 255);
        due("256 times 4080 times 4080", x.error(4, 2, 2), 256L * 4080 * 4080);
    }

    private static void errorsOfNothing() {
        says("29: -3: it is ahead of f; -4: there is no TRUTH; -1: no such ones");
        RawPictures x = with(4, 4, 0, "b:0;f:0");
        due("no TRUTH", x.error(2, 0, 0), -4);
        due("ahead of f comes ahead of no TRUTH", x.error(1, 0, 0), -3);
        due("the RAW", x.error(0, 2, 2), -3);
        plain(x, 1, 2, 3);
        due("ahead of f", x.error(1, 0, 0), -3);
        due("a TRUTH", x.error(2, 0, 0), 0);
        for (int isKnown = 1; isKnown >= 0; isKnown--) {
            int[][] bad = {{-1, 0, 0}, {3, 0, 0}, {2, 3, 0}, {2, -1, 0}, {2, 0, 3}, {2, 0, -1}, {0, 3, 0}, {1, 0, 3}, {LOW, 0, 0},
                {HIGH, 0, 0}, {2, LOW, 0}, {2, HIGH, 0}, {2, 0, LOW}, {2, 0, HIGH}};
            for (int[] b : bad) {
                due("error " + b[0] + ", " + b[1] + ", " + b[2], x.error(b[0], b[1], b[2]), -1);
            }
            x.pixel(0, 0, 0);
        }
    }

    private static void falseByMoreThan() {
        says("FALSE: a SQUARE whose greatest and least COLOUR are by more than so much unlike");
        RawPictures x = with(4, 4, 0, "b:0;f:0;g:16,99,16");
        int[][] sets = {{100, 110, 105}, {110, 100, 105}, {105, 100, 110}, {100, 105, 110}, {110, 105, 100}, {105, 110, 100}};
        for (int[] s : sets) {
            plain(x, s[0], s[1], s[2]);
            due("159", x.falseOnes(2, 159), 16);
            due("160", x.falseOnes(2, 160), 0);
        }
        x.scene(0, 77, 0);
        due("none of 0", x.falseOnes(2, 0), 0);
        plain(x, 0, 255, 0);
        due("4094", x.falseOnes(3, 4094), 16);
        due("4095: none can be", x.falseOnes(3, 4095), 0);
        says("30: by so much (0 to 4095); -3: it is ahead of f; NONE: no such ones");
        due("the RAW", x.falseOnes(0, 0), -3);
        due("b", x.falseOnes(1, 4095), -3);
        int[][] bad = {{-1, 0}, {4, 0}, {2, -1}, {2, 4096}, {0, 4096}, {1, -1}, {LOW, 0}, {HIGH, 0}, {2, LOW}, {2, HIGH}};
        for (int[] b : bad) {
            due("falseOnes " + b[0] + ", " + b[1], x.falseOnes(b[0], b[1]), -1);
        }
        tell(x, "b:0");
        due("without an f", x.falseOnes(1, 0), -3);
    }

    private static void placesBeside() {
        says("PLACES: groups of SQUARES that have it so high, which hang together by SQUARES beside (4)");
        RawPictures x = with(6, 6, 0, "b:0;f:0");
        x.pixel(2, 3, 255);
        x.pixel(3, 2, 255);
        due("aslant: two", x.places(2, 1, 4080, 0), 2);
        due("of one each", x.places(2, 1, 4080, 1), 1);
        due("so high", x.places(2, 1, 2040, 0), 1);
        due("with those between them", x.places(2, 1, 2040, 1), 4);
        due("not so high", x.places(2, 1, 2041, 0), 2);
        due("all from 0 on", x.places(2, 1, 0, 1), 36);
        due("one PLACE", x.places(2, 1, 0, 0), 1);
        due("from 0, 0 on", x.places(2, 1, 0, 2), 0);
        says("PLACES: the end of a row and the start of the next do not hang together");
        x.raw(16, 4, 0);
        x.pixel(15, 0, 255);
        x.pixel(0, 1, 255);
        due("two", x.places(2, 1, 4080, 0), 2);
        due("the first of like ones", x.places(2, 1, 4080, 2), 15);
        x.raw(16, 16, 0);
        x.scene(0, 255, 0);
        due("all 256", x.places(2, 2, 4080, 1), 256);
        due("none above", x.places(2, 2, 4081, 1), 0);
        tell(x, "f:0;g:99,99,99");
        due("from TOP on", x.places(2, 2, 4095, 1), 256);
    }

    private static void placesFirst() {
        says("31: 2 its first SQUARE (16 Y and X; of like ones the first)");
        RawPictures x = with(16, 4, 0, "f:0");
        x.scene(3, 0, 255);
        due("the first of its first row", x.places(1, 1, 4080, 2), 11);
        due("one PLACE", x.places(1, 1, 4080, 0), 1);
        x = with(6, 6, 0, "f:0");
        x.pixel(1, 0, 255);
        x.pixel(5, 4, 255);
        x.pixel(4, 5, 255);
        due("two PLACES", x.places(1, 1, 4080, 0), 2);
        due("the largest comes last", x.places(1, 1, 4080, 1), 3);
        due("its first SQUARE", x.places(1, 1, 4080, 2), 69);
        x.pixel(0, 1, 255);
        due("both of three", x.places(1, 1, 4080, 1), 3);
        due("the first of these", x.places(1, 1, 4080, 2), 0);
    }

    private static void placesOfNone() {
        says("31: none: -2; -3: it is ahead of f; NONE: no such ones");
        RawPictures x = with(4, 4, 0, "b:0;f:0");
        due("how many", x.places(2, 0, 1, 0), 0);
        due("SQUARES of the largest", x.places(2, 0, 1, 1), 0);
        due("none", x.places(2, 0, 1, 2), -2);
        due("the RAW", x.places(0, 0, 1, 2), -3);
        due("b", x.places(1, 0, 0, 0), -3);
        int[][] bad = {{-1, 0, 0, 0}, {3, 0, 0, 0}, {2, 3, 0, 0}, {2, -1, 0, 0}, {2, 0, 4096, 0}, {2, 0, -1, 0}, {2, 0, 0, 3},
            {2, 0, 0, -1}, {0, 3, 0, 0}, {1, 0, 4096, 0}, {0, 0, 0, 3}, {2, 0, 4096, 2}, {LOW, 0, 0, 0}, {HIGH, 0, 0, 0},
            {2, LOW, 0, 0}, {2, HIGH, 0, 0}, {2, 0, LOW, 0}, {2, 0, HIGH, 0}, {2, 0, 0, LOW}, {2, 0, 0, HIGH}};
        for (int[] b : bad) {
            due("places " + b[0] + ", " + b[1] + ", " + b[2] + ", " + b[3], x.places(b[0], b[1], b[2], b[3]), -1);
        }
        tell(x, "b:0");
        due("without an f", x.places(1, 0, 0, 0), -3);
    }

    private static void unlikeLevels() {
        says("32: both ahead of f or both behind it, what 0 how many LEVELS are unlike, 1 the greatest difference");
        RawPictures x = with(16, 16, 0, "b:1;d:255;f:0;g:17,0,16;g:16,16,16");
        x.scene(0, 255, 0);
        due("ahead: one for each SQUARE", x.unlike(0, 1, 0), 256);
        due("by 16", x.unlike(0, 1, 1), 16);
        due("the other way round", x.unlike(1, 0, 0), 256);
        due("d changes nothing", x.unlike(1, 2, 0), 0);
        due("nothing is the greatest", x.unlike(1, 2, 1), 0);
        due("behind: three for each, RED and GREEN unlike", x.unlike(3, 4, 0), 512);
        due("the greatest", x.unlike(4, 3, 1), 4064);
        due("like ones", x.unlike(4, 5, 0), 0);
        for (int k = 0; k <= 5; k++) {
            due("with itself", x.unlike(k, k, 0) + x.unlike(k, k, 1), 0);
        }
        tell(x, "b:1;f:0;g:0,0,0");
        due("all three", x.unlike(2, 3, 0), 768);
        x.pixel(3, 3, 0);
        due("one of them was 0 before", x.unlike(0, 1, 0), 255);
        tell(x, "f:0;t:0>0,255>254");
        x.scene(0, 1, 0);
        due("by 1", x.unlike(1, 2, 0), 768);
        due("1 is the greatest", x.unlike(1, 2, 1), 1);
        due("without it", x.without(2, 0), 768);
        tell(x, "b:1;f:0;g:0,0,0");
        says("32: -3: one is ahead of f alone; NONE: no such ones");
        due("the RAW and f", x.unlike(0, 2, 0), -3);
        due("f and the RAW", x.unlike(2, 0, 1), -3);
        due("b and g", x.unlike(1, 3, 0), -3);
        due("g and b", x.unlike(3, 1, 0), -3);
        int[][] bad = {{-1, 0, 0}, {0, -1, 0}, {4, 3, 0}, {3, 4, 0}, {0, 0, 2}, {0, 0, -1}, {0, 3, 2}, {0, 4, 0}, {LOW, 0, 0},
            {HIGH, 0, 0}, {0, LOW, 0}, {0, HIGH, 0}, {0, 0, LOW}, {0, 0, HIGH}};
        for (int[] b : bad) {
            due("unlike " + b[0] + ", " + b[1] + ", " + b[2], x.unlike(b[0], b[1], b[2]), -1);
        }
    }

    private static void withoutOne() {
        says("33: Without STAGE k the last one would LEAVE, what 0 how many LEVELS unlike, 1 the greatest difference");
        RawPictures x = with(4, 4, 0, "b:5");
        x.scene(0, 10, 0);
        due("the only one", x.without(1, 0), 16);
        due("by 80", x.without(1, 1), 80);
        tell(x, "b:3;b:200;b:0");
        due("the first, CLIPPED all the same", x.without(1, 0), 0);
        due("the second", x.without(2, 1), 112);
        due("the last changes nothing", x.without(3, 0), 0);
        tell(x, "b:5;f:0;g:32,16,16;g:16,16,8");
        due("the first", x.without(1, 0), 48);
        due("RED by twice 80", x.without(1, 1), 160);
        due("one between", x.without(3, 0), 16);
        due("the last", x.without(4, 0), 16);
        due("BLUE by half of 80", x.without(4, 1), 40);
        says("33: all stays as it was");
        due("stages", x.count(0), 4);
        due("what is left", x.left(4, 0, 0, 0) * 10000 + x.left(1, 0, 0, 0), 1600080);
        says("33: DEAD ones count in it, too");
        tell(x, "b:1;d:255");
        x.pixel(2, 2, 200);
        x.dead(2, 2, true);
        due("d", x.without(2, 0), 1);
        // two of its four are the SQUARE itself, MIRRORED: (160 + 3200) by 2
        due("by half of 3040", x.without(2, 1), 1520);
    }

    private static void withoutF() {
        says("33: -3: it is f; NONE: no such ones");
        RawPictures x = with(4, 4, 0, "b:5;f:0;v:1");
        due("f", x.without(2, 0), -3);
        due("f", x.without(2, 1), -3);
        int[][] bad = {{0, 0}, {4, 0}, {-1, 0}, {1, 2}, {1, -1}, {2, 2}, {2, -1}, {LOW, 0}, {HIGH, 0}, {1, LOW}, {1, HIGH}};
        for (int[] b : bad) {
            due("without " + b[0] + ", " + b[1], x.without(b[0], b[1]), -1);
        }
        tell(x, "f:1");
        due("f alone", x.without(1, 0), -3);
        x.stages(0);
        due("no stages", x.without(1, 0), -1);
        due("no stages, 0", x.without(0, 0), -1);
    }

    private static void bestOfLikeOnes() {
        says("34: (of like ones the least)");
        for (String text : new String[] {"b:9;f:0", "d:9;f:0", "l:0;f:0"}) {
            RawPictures x = with(4, 4, 0, text);
            plain(x, 0, 0, 0);
            for (int what = 0; what <= 2; what++) {
                due(text + ", what " + what, x.best(1, what), 0);
            }
        }
        for (String text : new String[] {"f:0;w:9", "f:0;h:254", "f:0;m:9", "f:0;y:9,9,9", "f:0;n:9,9", "f:0;s:9,9"}) {
            RawPictures x = with(4, 4, 0, text);
            plain(x, 0, 0, 0);
            for (int what = 0; what <= 2; what++) {
                due(text + ", what " + what, x.best(2, what), 0);
            }
        }
    }

    private static void bestWithin() {
        says("34: Of 0 to 8 that by which the last one LEAVES least of ERRORS");
        RawPictures x = with(4, 4, 0, "b:99;f:0;g:17,17,17");
        int[] value = {0, 17, 34, 85, 119, 136, 153, 238};
        int[] best = {0, 1, 2, 5, 7, 8, 8, 8};
        for (int i = 0; i < value.length; i++) {
            plain(x, value[i], value[i], value[i]);
            due("VALUE " + value[i], x.best(1, 2), best[i]);
        }
        due("b stays", x.stage(1, 1), 99);
        due("what is left stays", x.left(1, 0, 0, 0), 2224);
        says("34: FALSE ones by 256");
        tell(x, "f:0;w:0;m:99");
        plain(x, 100, 106, 100);
        due("GREY by 6", x.best(2, 1), 6);
        plain(x, 20, 24, 20);
        tell(x, "f:0;w:0;g:64,64,64");
        due("1536 and 1280: 256 is not FALSE", x.best(2, 1), 0);
        tell(x, "f:0;w:0;g:13,13,13;g:79,79,79");
        due("1540 and 1283: 257 is FALSE, but GREY by 4", x.best(2, 1), 4);
        says("34: NOISE of all three COLOURS");
        RawPictures y = with(4, 4, 0, "f:0;n:0,0");
        y.scene(2, 0, 255);
        due("the most", y.best(2, 0), 8);
        tell(y, "f:0;s:8,99");
        due("the least", y.best(2, 0), 0);
        says("34: as the first NUMBER: the others stay");
        tell(y, "f:0;n:0,99");
        due("all DETAIL is off already", y.best(2, 0), 0);
    }

    private static void bestOfEachLetter() {
        says("34: (b, d, l, w, h, m, y, n, s); -3: another STAGE");
        RawPictures x = with(4, 4, 0, "b:0;d:0;o:1;l:0;f:0;v:1;w:0;h:0;y:0,0,0;g:1,1,1;m:0;p:1,0");
        plain(x, 10, 20, 30);
        boolean[] isTold = {true, true, false, true, false, false, true, true, true, false, true, false};
        for (int k = 1; k <= 12; k++) {
            for (int what = 0; what <= 2; what++) {
                due("stage " + k, x.best(k, what) == -3 ? 1 : 0, isTold[k - 1] ? 0 : 1);
                due("it is 0 to 8", !isTold[k - 1] || (x.best(k, what) >= 0 && x.best(k, what) <= 8) ? 1 : 0, 1);
            }
        }
        tell(x, "f:0;n:0,0;s:0,0;t:0>0,255>255");
        due("n", x.best(2, 0), 0);
        due("s", x.best(3, 0), 0);
        due("t", x.best(4, 0), -3);
    }

    private static void bestOfNothing() {
        says("34: -4: there is no f, by 2 no TRUTH; NONE: no such ones");
        RawPictures x = with(4, 4, 0, "b:0;d:0;l:0;o:1");
        for (int what = 0; what <= 2; what++) {
            for (int k = 1; k <= 3; k++) {
                due("no f, what " + what, x.best(k, what), -4);
            }
            due("another STAGE comes ahead of no f", x.best(4, what), -3);
        }
        plain(x, 1, 2, 3);
        due("a TRUTH, but no f", x.best(1, 2), -4);
        tell(x, "b:0;f:0");
        due("both", x.best(1, 2), 0);
        x.pixel(0, 0, 1);
        due("no TRUTH", x.best(1, 2), -4);
        due("by 1 it needs none", x.best(1, 1), 0);
        due("by 0 it needs none", x.best(1, 0) >= 0 ? 1 : 0, 1);
        due("another STAGE comes ahead of no TRUTH", x.best(2, 2), -3);
        int[][] bad = {{0, 0}, {3, 0}, {-1, 0}, {1, 3}, {1, -1}, {2, 3}, {2, -1}, {LOW, 0}, {HIGH, 0}, {1, LOW}, {1, HIGH}};
        for (int[] b : bad) {
            due("best " + b[0] + ", " + b[1], x.best(b[0], b[1]), -1);
        }
        tell(x, "b:0");
        due("no f: NONE comes first", x.best(1, 3), -1);
    }
}
