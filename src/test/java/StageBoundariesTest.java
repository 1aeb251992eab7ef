/** What each STAGE makes at its limits: a test for each sentence of the Terms that names a boundary. */
public final class StageBoundariesTest extends Bench {
    public static void main(String[] args) {
        blackTakenOff();
        darkOfARow();
        middlesBeyondTheRim();
        foundByMoreThan();
        foundIfDead();
        foundByWhatWasAhead();
        shadeLifted();
        filledPlainly();
        filledAtTheRim();
        filledAndCut();
        filledAndClipped();
        filledAlongEdges();
        filledAlongTheRim();
        votedDown();
        votedNTimes();
        votedAndClipped();
        greyPlaces();
        gains();
        gainsUsed();
        timesNumbers();
        stretched();
        madePale();
        curve();
        curveBehindTheLast();
        evenedByBlocks();
        blocksCutOff();
        pyramid();
        floorsCutOff();
        blurAtTheRim();
        noiseTakenOff();
        sharpened();
        end("the stages' boundaries hold");
    }

    private static RawPictures ramp(int w, int h, int phase, String text) {
        RawPictures x = with(w, h, phase, text);
        x.scene(1, 10, 1);
        return x;
    }

    /** West 0, east 1600, made of VALUES; what f:0 leaves of it is told below at each test. */
    private static RawPictures step(String text) {
        RawPictures x = with(4, 4, 0, text);
        x.scene(2, 0, 100);
        return x;
    }

    private static void blackTakenOff() {
        says("b: each LEVEL less 16 times N, CLIPPED");
        RawPictures x = with(4, 4, 0, "b:7");
        x.scene(1, 1, 4);
        due("6 less 7", x.left(1, 2, 1, 1), 0);
        due("7 less 7", x.left(1, 3, 1, 2), 0);
        due("8 less 7", x.left(1, 0, 2, 0), 16);
        due("0 less 7", x.left(1, 0, 0, 0), 0);
        tell(x, "b:0");
        due("less 0", x.unlike(0, 1, 0), 0);
        x.scene(0, 255, 0);
        tell(x, "b:255;b:254");
        due("255 less 255", x.levels(1, 1, 1), 0);
        tell(x, "b:254");
        due("255 less 254", x.levels(1, 1, 0), 16);
    }

    private static void darkOfARow() {
        says("o: of each row its first N LEVELS together by N: each LEVEL of the row less that, CLIPPED");
        RawPictures x = with(4, 4, 0, "o:1");
        rows(x, new int[] {1, 2, 4, 9}, new int[] {0, 0, 0, 255});
        int[][] want = {{0, 16, 48, 128}, {0, 8, 40, 120}, {0, 0, 27, 107}, {0, 0, 0, 80}};
        int[] dark = {16, 24, 37, 64};
        int[] last = {4080, 4080, 4080, 3060};
        for (int n = 1; n <= 4; n++) {
            tell(x, "o:" + n);
            for (int i = 0; i < 4; i++) {
                due("o:" + n + " at " + i, x.left(1, i, 0, x.colour(i, 0)), want[n - 1][i]);
            }
            due("dark of row 0 by o:" + n, x.dark(1, 0), dark[n - 1]);
            due("row 1 by itself, o:" + n, x.left(1, 3, 1, 2), last[n - 1]);
            due("row 2 has none", x.dark(1, 2), 0);
        }
        x.raw(16, 4, 0);
        rows(x, new int[] {1, 1, 1, 1, 99, 99, 99, 99, 99, 99, 99, 99, 99, 99, 99, 99});
        due("no more than its first four", x.dark(1, 0), 16);
    }

    private static void middlesBeyondTheRim() {
        says("MIRRORED: X -1 is 1, -2 is 2, W is W - 2, W + 1 is W - 3; Y likewise (d)");
        RawPictures x = ramp(6, 6, 0, "d:0");
        int[][] at = {{0, 0, 176}, {1, 1, 192}, {5, 5, 704}, {4, 4, 688}, {5, 0, 656}, {0, 5, 224}, {4, 1, 656}, {1, 4, 224},
            {2, 3, 368}};
        for (int[] a : at) {
            due("of 6 by 6 at " + a[0] + ", " + a[1], x.middle(1, a[0], a[1]), a[2]);
        }
        x = ramp(4, 4, 0, "d:0");
        int[][] small = {{0, 0, 176}, {3, 3, 352}, {1, 1, 192}, {2, 2, 336}};
        for (int[] a : small) {
            due("of 4 by 4 at " + a[0] + ", " + a[1], x.middle(1, a[0], a[1]), a[2]);
        }
        says("d: the two in the middle as they are sorted, together by 2");
        x = with(6, 6, 0, "d:0");
        int[][] order = {{1, 2, 4, 9}, {9, 4, 2, 1}, {2, 9, 1, 4}, {4, 1, 9, 2}, {9, 1, 4, 2}, {2, 4, 1, 9}};
        for (int[] o : order) {
            x.pixel(0, 2, o[0]);
            x.pixel(4, 2, o[1]);
            x.pixel(2, 0, o[2]);
            x.pixel(2, 4, o[3]);
            due("of 1, 2, 4, 9", x.middle(1, 2, 2), 48);
        }
        tell(x, "o:3;d:0");
        x.scene(0, 0, 0);
        rows(x, new int[] {0, 0, 0, 0, 0, 0}, new int[] {0, 0, 0, 0, 0, 0}, new int[] {1, 0, 0, 0, 3, 0});
        due("of 11, 43, 0, 0: 11 by 2, cut", x.middle(2, 2, 2), 5);
    }

    private static void foundByMoreThan() {
        says("d: FOUND if its LEVEL is by more than 16 times N unlike its MIDDLE");
        RawPictures x = with(6, 6, 0, "d:5");
        int[][] lone = {{94, 1}, {95, 0}, {100, 0}, {105, 0}, {106, 1}};
        for (int[] l : lone) {
            x.scene(0, 100, 0);
            x.pixel(2, 2, l[0]);
            due("VALUE " + l[0] + " among 100", x.found(1, 0), l[1]);
            due("it is left", x.left(1, 2, 2, 0), l[1] == 1 ? 1600 : 16 * l[0]);
        }
        x.scene(0, 100, 0);
        x.pixel(2, 2, 110);
        due("those two to the west and north are by 80 unlike", x.found(1, 0), 1);
        x.pixel(2, 2, 111);
        due("now by 88", x.found(1, 0), 3);
        tell(x, "d:0");
        x.scene(0, 100, 0);
        due("d:0, all alike", x.found(1, 0), 0);
        x.pixel(5, 5, 101);
        due("d:0, by 16", x.found(1, 2), 85);
        tell(x, "d:255");
        x.scene(0, 0, 0);
        x.pixel(2, 2, 255);
        due("d:255, by 4080", x.found(1, 0), 0);
        tell(x, "d:254");
        due("d:254, by 4080", x.found(1, 0), 1);
    }

    private static void foundIfDead() {
        says("d: FOUND if it is DEAD");
        RawPictures x = with(6, 6, 0, "d:255");
        x.scene(0, 100, 0);
        x.dead(3, 4, true);
        due("like its MIDDLE, and FOUND", x.found(1, 2), 67);
        due("it is left as it was", x.left(1, 3, 4, 1), 1600);
        x.pixel(3, 4, 255);
        due("it becomes its MIDDLE", x.left(1, 3, 4, 1), 1600);
        x.dead(3, 4, false);
        due("not any more", x.found(1, 0), 0);
        due("it is left", x.left(1, 3, 4, 1), 4080);
    }

    private static void foundByWhatWasAhead() {
        says("d: all that are FOUND become their MIDDLES (as all was ahead of it)");
        RawPictures x = with(4, 4, 0, "d:255");
        rows(x, new int[] {40, 0, 90, 0});
        x.dead(0, 0, true);
        x.dead(2, 0, true);
        due("the first", x.left(1, 0, 0, 0), 720);
        due("the second, by 40 as it was", x.left(1, 2, 0, 0), 320);
    }

    private static void shadeLifted() {
        says("l: dx = 2 X + 1 - W: LEVEL times (256 + (N times (dx dx + dy dy)) by 16) by 256");
        RawPictures x = with(4, 4, 0, "l:1");
        int[] n = {0, 1, 7, 8, 9, 99};
        int[] corner = {1600, 1606, 1643, 1656, 1662, 2293};
        int[] side = {1600, 1600, 1625, 1631, 1631, 1981};
        int[] middle = {1600, 1600, 1600, 1606, 1606, 1675};
        x.scene(0, 100, 0);
        for (int i = 0; i < n.length; i++) {
            tell(x, "l:" + n[i]);
            int[][] corners = {{0, 0}, {3, 0}, {0, 3}, {3, 3}};
            for (int[] c : corners) {
                due("corner, l:" + n[i], x.left(1, c[0], c[1], x.colour(c[0], c[1])), corner[i]);
            }
            due("side, l:" + n[i], x.left(1, 1, 0, 1), side[i]);
            due("the other side, l:" + n[i], x.left(1, 3, 2, 1), side[i]);
            due("middle, l:" + n[i], x.left(1, 2, 2, 0), middle[i]);
        }
        says("l: CLIPPED");
        tell(x, "l:1");
        x.scene(0, 255, 0);
        due("4095.9", x.left(1, 0, 0, 0), 4095);
        tell(x, "l:2");
        due("4111", x.left(1, 0, 0, 0), 4095);
        x = with(16, 16, 0, "l:99");
        x.scene(0, 1, 0);
        due("16 times 3040 by 256", x.left(1, 15, 15, 2), 190);
        x.scene(0, 21, 0);
        due("336 times 3040 by 256", x.left(1, 0, 15, 1), 3990);
        x.scene(0, 22, 0);
        due("4180", x.left(1, 0, 0, 0), 4095);
        x = with(16, 4, 0, "l:1");
        x.scene(0, 100, 0);
        due("by W and by H", x.left(1, 15, 0, 1), 1687);
    }

    private static void filledPlainly() {
        says("f: of a GREEN SQUARE its LEVEL; of its own COLOUR its LEVEL");
        for (int phase = 0; phase < 4; phase++) {
            RawPictures x = ramp(6, 4, phase, "f:0");
            RawPictures y = ramp(6, 4, phase, "f:1");
            for (int i = 0; i < 24; i++) {
                int own = x.colour(i % 6, i / 6);
                due("phase " + phase + " square " + i, x.left(1, i % 6, i / 6, own), 160 * (i % 6) + 16 * (i / 6));
                due("phase " + phase + " f:1 square " + i, y.left(1, i % 6, i / 6, own), 160 * (i % 6) + 16 * (i / 6));
            }
        }
        says("f: with K 0: the four beside it together by 4");
        RawPictures x = ramp(6, 4, 0, "f:0");
        x.pixel(2, 1, 255);
        due("(16 + 4080 + 160 + 192) by 4", x.left(1, 1, 1, 1), 1112);
    }

    private static void filledAtTheRim() {
        says("MIRRORED (f): each rim and corner");
        RawPictures x = ramp(6, 4, 0, "f:0");
        int[][] green = {{0, 0, 88}, {2, 0, 328}, {0, 2, 112}, {5, 3, 760}, {5, 1, 736}, {3, 3, 520}, {4, 2, 672}, {1, 1, 176}};
        for (int[] g : green) {
            due("GREEN at " + g[0] + ", " + g[1], x.left(1, g[0], g[1], 1), g[2]);
        }
        due("RED of BLUE in the corner", x.left(1, 5, 3, 0), 760);
        due("BLUE of RED in the corner", x.left(1, 0, 0, 2), 88);
        due("RED of GREEN, west and east", x.left(1, 1, 0, 0), 112);
        due("its BLUE, north and south", x.left(1, 1, 0, 2), 160);
        due("RED of GREEN in the corner to the east", x.left(1, 5, 0, 0), 792);
        due("its BLUE", x.left(1, 5, 0, 2), 880);
        due("RED of GREEN in the corner to the south, CLIPPED", x.left(1, 0, 3, 0), 0);
        due("its BLUE", x.left(1, 0, 3, 2), 56);
        says("f: of that COLOUR whose SQUARES are to the west and east: in each PHASE");
        int[] beside = {0, 0, 2, 2};
        int[] at = {1, 2, 2, 1};
        for (int phase = 0; phase < 4; phase++) {
            RawPictures y = with(8, 8, phase, "f:0");
            y.scene(0, 100, 0);
            // the one to the east stands out by 1600: half of it comes to the COLOUR beside, nothing to the other
            y.pixel(at[phase] + 1, 0, 200);
            due("phase " + phase + ", beside", y.left(1, at[phase], 0, beside[phase]), 2400);
            due("phase " + phase + ", the other", y.left(1, at[phase], 0, 2 - beside[phase]), 1600);
        }
    }

    private static void filledAndCut() {
        says("what is divided is cut towards 0 (f)");
        RawPictures x = with(4, 4, 0, "o:3;f:0");
        rows(x, new int[] {0, 1, 0, 0});
        due("GREEN 22 by 4", x.left(2, 0, 0, 1), 5);
        due("GREEN 11 by 4", x.left(2, 2, 0, 1), 2);
        due("RED 11 and -7 by 2", x.left(2, 1, 0, 0), 8);
        due("RED 2 and -7 by 4", x.left(2, 1, 1, 0), 1);
    }

    private static void filledAndClipped() {
        says("f: CLIPPED");
        RawPictures x = with(4, 4, 0, "f:0");
        rows(x, new int[] {255, 255, 255, 0});
        due("RED above TOP", x.left(1, 1, 0, 0), 4095);
        due("its GREEN is not", x.left(1, 1, 0, 1), 4080);
        rows(x, new int[] {0, 255, 0, 0});
        // the GREEN of 0, 0 is 2040, so RED there is below it by as much
        due("RED of 3, 0 below 0", x.left(1, 3, 0, 0), 0);
        x.scene(5, 100, 0);
        due("RED of a BLUE one: 1600 less 1600", x.left(1, 1, 1, 0), 0);
        rows(x, new int[] {0, 100, 0, 100}, new int[] {50, 0, 100, 0});
        due("RED of a BLUE one below 0", x.left(1, 1, 1, 0), 0);
    }

    /** All 100 but what is told; the way of the BLUE SQUARE at 3, 3. */
    private static int wayWith(int... told) {
        RawPictures x = with(6, 6, 0, "f:1");
        x.scene(0, 100, 0);
        for (int i = 0; i < told.length; i += 3) {
            x.pixel(told[i], told[i + 1], told[i + 2]);
        }
        return 10000 * x.way(3, 3) + x.left(1, 3, 3, 1);
    }

    private static void filledAlongEdges() {
        says("f: If ACROSS is less: west and east by 2; if DOWN is: north and south; else the four by 4");
        due("both 0", wayWith(), 20000 + 1600);
        due("west by 1: ACROSS is greater", wayWith(2, 3, 101), 10000 + 1600);
        due("east by 1", wayWith(4, 3, 99), 10000 + 1600);
        due("north by 1: DOWN is greater", wayWith(3, 2, 101), 1600);
        due("south by 1", wayWith(3, 4, 99), 1600);
        due("both by 1", wayWith(2, 3, 101, 3, 2, 101), 20000 + 1608);
        due("west by 2, north by 1: DOWN is less", wayWith(2, 3, 102, 3, 2, 101), 10000 + 1608);
        due("west by 1, north by 2: ACROSS is less", wayWith(2, 3, 101, 3, 2, 102), 1608);
        says("ACROSS: and how unlike 2 c and the two that are two SQUARES to the west and east together");
        due("two to the west", wayWith(1, 3, 101), 10000 + 1600);
        due("two to the east", wayWith(5, 3, 99), 10000 + 1600);
        due("two to the west and east, one more, one less", wayWith(1, 3, 101, 5, 3, 99), 20000 + 1600);
        due("two to the north", wayWith(3, 1, 99), 1600);
        due("two to the south", wayWith(3, 5, 101), 1600);
        due("two to the north and south, one more, one less", wayWith(3, 1, 101, 3, 5, 99), 20000 + 1600);
        due("both together", wayWith(2, 3, 101, 1, 3, 101, 3, 2, 102), 20000 + 1612);
        due("west more, two to the west less: no sign is lost", wayWith(2, 3, 101, 1, 3, 99, 3, 2, 101), 10000 + 1608);
        due("2 c: c is on both sides", wayWith(3, 3, 101), 20000 + 1600);
    }

    private static void filledAlongTheRim() {
        says("MIRRORED (f:1): two SQUARES beyond the rim");
        RawPictures x = with(4, 4, 0, "f:1");
        rows(x, new int[] {10, 50, 11, 60}, new int[] {70, 0, 0, 0}, new int[] {12, 0, 0, 0});
        due("0, 0: ACROSS 32, DOWN 64", x.way(0, 0), 0);
        due("its GREEN is that beside", x.left(1, 0, 0, 1), 800);
        x.pixel(2, 0, 13);
        due("0, 0: ACROSS 96", x.way(0, 0), 1);
        due("its GREEN is that below", x.left(1, 0, 0, 1), 1120);
        x.pixel(2, 0, 12);
        due("0, 0: both 64", x.way(0, 0), 2);
        x = with(4, 4, 0, "f:1");
        x.pixel(3, 3, 10);
        x.pixel(1, 3, 11);
        x.pixel(3, 1, 12);
        due("3, 3: ACROSS 32, DOWN 64", x.way(3, 3), 0);
        x.pixel(1, 3, 13);
        due("3, 3: ACROSS 96", x.way(3, 3), 1);
        x = with(4, 4, 0, "f:1");
        // at 2, 0: two to the east is itself, so ACROSS is how unlike it and 0, 0 are; DOWN is twice that to 2, 2
        x.pixel(2, 0, 10);
        x.pixel(2, 2, 5);
        due("2, 0: ACROSS 160, DOWN 160", x.way(2, 0), 2);
        x.pixel(0, 0, 1);
        due("2, 0: ACROSS 144", x.way(2, 0), 0);
        x.pixel(0, 0, 0);
        x.pixel(2, 2, 6);
        due("2, 0: DOWN 128", x.way(2, 0), 1);
    }

    /** A RED or BLUE SQUARE in a corner stands out by 1600. */
    private static RawPictures corner(int phase, int at, String text) {
        RawPictures x = with(10, 10, phase, text);
        x.scene(0, 100, 0);
        x.pixel(at, at, 200);
        return x;
    }

    private static void votedDown() {
        says("v: the MEDIAN (the fifth as they are sorted) of the nine 3 by 3 around it (MIRRORED)");
        int[][] cases = {{0, 0, 0}, {3, 0, 2}, {0, 9, 2}, {3, 9, 0}};
        for (int[] c : cases) {
            RawPictures x = corner(c[0], c[1], "f:0;v:1");
            int in = c[1] == 0 ? 1 : 8;
            due("ahead of it", x.left(1, c[1], c[1], c[2]), 3200);
            due("the corner: four 400, four 800, 1600", x.left(2, c[1], c[1], c[2]), 2400);
            due("beside it: three 0, two 400, three 800, 1600", x.left(2, in, c[1], c[2]), 2000);
            due("below it", x.left(2, c[1], in, c[2]), 2000);
            due("aslant: five 0", x.left(2, in, in, c[2]), 1600);
            due("GREEN stays", x.levels(2, 1, 0) + x.levels(2, 1, 1), 3200);
            due("the other COLOUR stays", x.levels(2, 2 - c[2], 0) + x.levels(2, 2 - c[2], 1), 3200);
        }
    }

    private static void votedNTimes() {
        says("v: N times, one behind the other");
        int[] want = {2400, 2000, 1600};
        for (int n = 1; n <= 3; n++) {
            due("RED, v:" + n, corner(0, 0, "f:0;v:" + n).left(2, 0, 0, 0), want[n - 1]);
            due("BLUE, v:" + n, corner(3, 0, "f:0;v:" + n).left(2, 0, 0, 2), want[n - 1]);
        }
        RawPictures x = corner(0, 0, "f:0;v:1;v:2");
        due("one and two are three", x.left(3, 0, 0, 0), 1600);
    }

    private static void votedAndClipped() {
        says("v: CLIPPED");
        int[] phases = {0, 3};
        for (int phase : phases) {
            RawPictures x = with(10, 10, phase, "f:0;v:1");
            int seen = phase == 0 ? 0 : 2;
            for (int i = 0; i < 100; i++) {
                boolean isEven = i % 10 % 2 == 0 && i / 10 % 2 == 0;
                x.pixel(i % 10, i / 10, isEven ? 0 : 100);
            }
            x.pixel(5, 4, 10);
            due("160 less 1240, phase " + phase, x.left(2, 5, 4, seen), 0);
            for (int i = 0; i < 25; i++) {
                x.pixel(i % 5 * 2, i / 5 * 2, 255);
            }
            x.pixel(5, 4, 255);
            due("4080 and 1875, phase " + phase, x.left(2, 5, 4, seen), 4095);
        }
    }

    private static void greyPlaces() {
        says("w: GREY is a SQUARE whose least COLOUR is 64 at least");
        RawPictures x = with(4, 4, 0, "f:0;t:0>3,255>4;w:0");
        x.scene(0, 240, 0);
        due("48 and 3840 by 255 is 63", x.white(3, 2), 0);
        x.scene(0, 255, 0);
        due("48 and 16 is 64", x.white(3, 2), 16);
        says("w: whose greatest is 4000 at most");
        tell(x, "f:0;t:0>250,255>251;w:0");
        x.scene(0, 15, 0);
        due("4000", x.white(3, 2), 16);
        x.scene(0, 16, 0);
        due("4001", x.white(3, 2), 0);
        says("w: and these by no more than 16 times N unlike");
        tell(x, "f:0;w:5");
        int[][] sets = {{50, 55, 50, 16}, {55, 50, 52, 16}, {50, 50, 55, 16}, {50, 56, 50, 0}, {56, 50, 50, 0}, {50, 50, 56, 0}};
        for (int[] s : sets) {
            plain(x, s[0], s[1], s[2]);
            due("GREY of " + s[0] + ", " + s[1] + ", " + s[2], x.white(2, 2), s[3]);
        }
        tell(x, "f:0;w:0");
        plain(x, 50, 50, 50);
        due("w:0, alike", x.white(2, 2), 16);
        plain(x, 50, 50, 51);
        due("w:0, by 16", x.white(2, 2), 0);
        tell(x, "f:0;t:0>10,255>11;w:0");
        plain(x, 0, 0, 15);
        due("w:0, all 160", x.white(3, 2), 16);
        plain(x, 0, 0, 16);
        due("w:0, by 1", x.white(3, 2), 0);
    }

    private static void gains() {
        says("w: GAIN: 256 times all GREENS by all REDS, by all BLUES, 64 at least, 1024 at most; without GREY ones 256");
        RawPictures x = with(4, 4, 0, "f:0;w:255");
        int[][] sets = {{100, 100, 100, 256, 256}, {50, 54, 49, 276, 282}, {248, 62, 62, 64, 256}, {244, 62, 247, 65, 64},
            {250, 62, 249, 64, 64}, {62, 248, 248, 1024, 256}, {63, 248, 62, 1007, 1024}, {60, 248, 61, 1024, 1024},
            {85, 169, 85, 508, 508}};
        for (int[] s : sets) {
            plain(x, s[0], s[1], s[2]);
            due("RED of " + s[0] + ", " + s[1] + ", " + s[2], x.white(2, 0), s[3]);
            due("BLUE of " + s[0] + ", " + s[1] + ", " + s[2], x.white(2, 1), s[4]);
            due("all are GREY", x.white(2, 2), 16);
        }
        plain(x, 3, 200, 50);
        due("no GREY ones: RED", x.white(2, 0), 256);
        due("no GREY ones: BLUE", x.white(2, 1), 256);
        due("none", x.white(2, 2), 0);
        due("all stays", x.unlike(1, 2, 0), 0);
        says("w: of the GREY ones");
        x.scene(0, 100, 0);
        tell(x, "f:0;w:0");
        x.pixel(0, 0, 255);
        int many = x.white(2, 2);
        due("some are GREY, some are not", many > 0 && many < 16 ? 1 : 0, 1);
        due("these alone tell RED", x.white(2, 0), 256);
    }

    private static void gainsUsed() {
        says("w: RED, BLUE times their GAINS by 256, CLIPPED");
        RawPictures x = with(4, 4, 0, "f:0;w:255");
        plain(x, 50, 54, 49);
        due("800 times 276 by 256", x.left(2, 1, 1, 0), 862);
        due("GREEN stays", x.left(2, 1, 1, 1), 864);
        due("784 times 282 by 256", x.left(2, 1, 1, 2), 863);
        x.raw(16, 4, 0);
        feedBytes(x, 50, 200, 40, 250, 250, 250);
        x.truth(1);
        due("RED above TOP", x.left(2, 15, 3, 0), 4095);
        due("BLUE above TOP", x.left(2, 15, 3, 2), 4095);
        due("GREEN stays", x.left(2, 15, 3, 1), 4000);
    }

    private static void timesNumbers() {
        says("g: each COLOUR times its number by 16, CLIPPED");
        RawPictures x = with(4, 4, 0, "f:0;g:0,16,99");
        plain(x, 100, 101, 102);
        due("0", x.levels(2, 0, 1), 0);
        due("16", x.left(2, 0, 0, 1), 1616);
        due("99", x.levels(2, 2, 0), 4095);
        tell(x, "f:0;g:1,1,1;g:1,15,17");
        plain(x, 31, 31, 31);
        due("31 by 16", x.left(3, 2, 2, 0), 1);
        due("465 by 16", x.left(3, 2, 2, 1), 29);
        due("527 by 16", x.left(3, 2, 2, 2), 32);
        tell(x, "f:0;g:17,17,17");
        x.scene(0, 240, 0);
        due("4080", x.levels(2, 0, 1), 4080);
        x.scene(0, 241, 0);
        due("4097", x.levels(2, 0, 1), 4095);
    }

    private static void stretched() {
        says("m: LIGHT = (RED and BLUE and 2 GREEN together) by 4");
        RawPictures x = with(4, 4, 0, "f:0;g:1,1,1;m:0");
        plain(x, 1, 2, 4);
        for (int c = 0; c < 3; c++) {
            due("9 by 4", x.left(3, 1, 2, c), 2);
        }
        says("m: each COLOUR becomes LIGHT and ((COLOUR - LIGHT) times N) by 16");
        int[] n = {8, 15, 16, 17, 24, 32, 33};
        int[] red = {2, 2, 1, 1, 1, 0, 0};
        int[] blue = {3, 3, 4, 4, 5, 6, 6};
        for (int i = 0; i < n.length; i++) {
            tell(x, "f:0;g:1,1,1;m:" + n[i]);
            due("RED, m:" + n[i], x.left(3, 0, 0, 0), red[i]);
            due("GREEN, m:" + n[i], x.left(3, 0, 0, 1), 2);
            due("BLUE, m:" + n[i], x.left(3, 0, 0, 2), blue[i]);
        }
        says("m: CLIPPED");
        tell(x, "f:0;m:99");
        plain(x, 0, 0, 255);
        due("below 0", x.left(2, 0, 0, 0), 0);
        due("above TOP", x.left(2, 0, 0, 2), 4095);
    }

    private static void madePale() {
        says("h: if the greatest COLOUR P of a SQUARE is above 16 N");
        RawPictures x = with(4, 4, 0, "f:0;h:200");
        plain(x, 100, 200, 50);
        due("P is 16 N", x.unlike(1, 2, 0), 0);
        tell(x, "f:0;h:199");
        due("RED: 1600 and 1600 times 16 by 911", x.left(2, 0, 0, 0), 1628);
        due("GREEN is the greatest", x.left(2, 0, 0, 1), 3200);
        due("BLUE: 800 and 2400 times 16 by 911", x.left(2, 0, 0, 2), 842);
        plain(x, 200, 100, 50);
        due("RED is the greatest", x.left(2, 1, 1, 0) + x.left(2, 1, 1, 1), 4828);
        plain(x, 50, 100, 200);
        due("BLUE is the greatest", x.left(2, 1, 1, 2) + x.left(2, 1, 1, 1), 4828);
        says("h: 0 to 254, TOP less 16 N");
        tell(x, "f:0;h:0");
        plain(x, 0, 255, 0);
        due("4080 times 4080 by 4095", x.left(2, 1, 1, 0), 4065);
        x.scene(0, 0, 0);
        due("0 is not above 0", x.levels(2, 0, 1), 0);
        tell(x, "f:0;h:254");
        plain(x, 100, 255, 0);
        due("1600 and 2480 times 16 by 31", x.left(2, 0, 1, 0), 2880);
        plain(x, 100, 254, 0);
        due("4064 is not above", x.unlike(1, 2, 0), 0);
        tell(x, "f:0;g:16,99,16;h:254");
        plain(x, 0, 255, 10);
        due("P TOP: all become TOP", x.levels(3, 0, 0) + x.levels(3, 2, 0), 8190);
    }

    private static int bent(int value, int times, String curve) {
        RawPictures x = with(4, 4, 0, "f:0;g:" + times + "," + times + "," + times + ";t:" + curve);
        x.scene(0, value, 0);
        due("RED and BLUE alike", x.left(3, 1, 1, 0) - x.left(3, 2, 2, 2), 0);
        due("GREEN alike", x.left(3, 1, 1, 1) - x.left(3, 2, 2, 2), 0);
        return x.left(3, 1, 1, 0);
    }

    private static void curve() {
        says("t: 16 times Y of the one, and ((L - 16 X) times (the next Y less Y)) by (the next X less X)");
        String curve = "0>10,100>200,255>0";
        due("L 0", bent(0, 16, curve), 160);
        due("L 1584: 160 and 3009.6", bent(99, 16, curve), 3169);
        due("L 1600 is a point", bent(100, 16, curve), 3200);
        due("L 1616: 3200 less 20.6", bent(101, 16, curve), 3180);
        due("L 4080 is the last point", bent(255, 16, curve), 0);
        due("L 1599: 160 and 3038.1", bent(123, 13, curve), 3198);
        due("falling, 16 less 240 by 255", bent(15, 16, "0>1,255>0"), 16);
        due("falling, 16 less 256 by 255", bent(16, 16, "0>1,255>0"), 15);
        due("steep", bent(1, 16, "0>0,1>255,255>255"), 4080);
        due("steep, L 15", bent(15, 1, "0>0,1>255,255>255"), 3825);
        due("many points", bent(7, 16, "0>0,1>9,2>8,3>7,4>6,5>5,6>4,7>200,8>2,255>1"), 3200);
    }

    private static void curveBehindTheLast() {
        says("t: (the last two for all that is greater), CLIPPED");
        due("TOP of 0 to 255", bent(255, 99, "0>0,255>255"), 4095);
        due("TOP: 4095 times 128 by 255", bent(255, 99, "0>0,255>128"), 2055);
        due("TOP: 31 times 255", bent(255, 99, "0>255,254>0,255>255"), 4095);
        due("4064 is the point ahead", bent(254, 16, "0>255,254>0,255>255"), 0);
        due("4080 is the last point", bent(255, 16, "0>255,254>0,255>254"), 4064);
        due("below 0: 3200 less 3219", bent(255, 99, "0>10,100>200,255>0"), 0);
        due("TOP: 4064 and 4095 by 255", bent(255, 99, "0>254,255>255"), 4080);
    }

    private static void evenedByBlocks() {
        says("p: each COLOUR and ((MEAN - BASE) times N) by 16, CLIPPED");
        // LIGHTS of even rows 0 50 1250 1700, of odd ones 0 350 1650 1700: MEAN 837, BASES 100 and 1575
        RawPictures x = step("f:0;p:1,16");
        due("BASE to the west", x.base(2, 1, 3), 100);
        due("BASE to the east", x.base(2, 2, 0), 1575);
        due("400 and 737", x.left(2, 1, 1, 1), 1137);
        due("1200 less 738", x.left(2, 2, 0, 1), 462);
        tell(x, "f:0;p:1,1");
        due("400 and 737 by 16", x.left(2, 1, 1, 1), 446);
        due("1200 less 738 by 16, cut", x.left(2, 2, 0, 1), 1154);
        tell(x, "f:0;p:1,0");
        due("N 0", x.unlike(1, 2, 0), 0);
        tell(x, "f:0;p:1,32");
        due("1200 less 1476", x.left(2, 2, 0, 1), 0);
        due("2000 less 1476", x.left(2, 3, 0, 0), 524);
        x.scene(0, 255, 0);
        x.pixel(1, 0, 0);
        x.pixel(0, 1, 0);
        x.pixel(1, 1, 0);
        due("above TOP", x.left(2, 0, 0, 0), 4095);
    }

    /** LIGHTS that STAGE 1 left, of some columns and rows, together by how many. */
    private static int mean(RawPictures x, int west, int east, int north, int south) {
        int sum = 0;
        for (int row = north; row <= south; row++) {
            for (int column = west; column <= east; column++) {
                sum += (x.left(1, column, row, 0) + x.left(1, column, row, 2) + 2 * x.left(1, column, row, 1)) / 4;
            }
        }
        return sum / ((east - west + 1) * (south - north + 1));
    }

    private static void blocksCutOff() {
        says("p: BLOCKS of 2 to the power of K SQUARES each way, from 0, 0 on (cut off at the rim)");
        for (int k = 1; k <= 4; k++) {
            int side = 1 << k;
            int[][] at = {{0, 0}, {side - 1, 0}, {side, 0}, {9, 13}, {9, 0}, {0, 13}, {7, 7}, {8, 8}};
            for (int[] a : at) {
                if (a[0] >= 10 || a[1] >= 14) {
                    continue;
                }
                RawPictures x = with(10, 14, 0, "f:0;p:" + k + ",16");
                x.scene(1, 23, 5);
                int west = a[0] / side * side;
                int north = a[1] / side * side;
                int want = mean(x, west, Math.min(9, west + side - 1), north, Math.min(13, north + side - 1));
                due("K " + k + " at " + a[0] + ", " + a[1], x.base(2, a[0], a[1]), want);
            }
        }
        RawPictures x = with(6, 4, 0, "f:0;p:1,32");
        x.scene(0, 100, 0);
        due("all alike: all stays", x.unlike(1, 2, 0), 0);
        x = step("f:0;p:2,32");
        due("one BLOCK: all stays", x.unlike(1, 2, 0), 0);
        due("its BASE", x.base(2, 3, 3), 837);
        x = with(16, 16, 0, "f:0;p:4,32");
        x.scene(1, 3, 7);
        due("one BLOCK of 16 by 16", x.unlike(1, 2, 0), 0);
    }

    private static void pyramid() {
        says("y: TONE: FLOOR 3, and ((FLOOR 0 less 1) times A) by 16, and ((1 less 2) times B) by 16, ((2 less 3) times C) by 16");
        // FLOORS of 1, 1: 350, 100, 837, 837
        RawPictures x = step("f:0;y:1,1,9");
        int[] floors = {350, 100, 837, 837};
        for (int f = 0; f <= 3; f++) {
            due("FLOOR " + f, x.tone(2, f, 1, 1), floors[f]);
        }
        due("837 and 15 less 46", x.tone(2, 4, 1, 1), 806);
        due("400 and 806 less 350", x.left(2, 1, 1, 1), 856);
        tell(x, "f:0;y:0,0,0");
        due("837 alone", x.tone(2, 4, 1, 1), 837);
        due("400 and 837 less 350", x.left(2, 1, 1, 1), 887);
        tell(x, "f:0;y:16,16,16");
        due("all stays", x.unlike(1, 2, 0), 0);
        tell(x, "f:0;y:32,32,32");
        due("837 and 500 less 1474", x.tone(2, 4, 1, 1), -137);
        says("y: each COLOUR and (TONE less LIGHT), CLIPPED");
        due("GREEN 400 less 487", x.left(2, 1, 1, 1), 0);
        due("RED 600 less 487", x.left(2, 1, 1, 0), 113);
        x.scene(2, 0, 255);
        due("above TOP", x.left(2, 3, 0, 0), 4095);
        due("it would be: TONE is above LIGHT", x.tone(2, 4, 3, 0) > x.tone(2, 0, 3, 0) ? 1 : 0, 1);
        says("y: C");
        x = with(16, 4, 0, "f:0;y:0,0,1");
        x.scene(2, 0, 100);
        int second = x.tone(2, 2, 0, 0);
        int third = x.tone(2, 3, 0, 0);
        due("FLOOR 2 is not FLOOR 3", second == third ? 1 : 0, 0);
        due("TONE", x.tone(2, 4, 0, 0), third + (second - third) / 16);
    }

    /** A square of a floor, by the LIGHTS that floor 0 tells. */
    private static int floorByHand(RawPictures x, int floor, int atX, int atY) {
        if (floor == 0) {
            return x.tone(2, 0, atX, atY);
        }
        int w = x.rawIs(0);
        int h = x.rawIs(1);
        for (int i = 1; i < floor; i++) {
            w = w / 2 + w % 2;
            h = h / 2 + h % 2;
        }
        int sum = 0;
        int many = 0;
        for (int y = 2 * atY; y <= 2 * atY + 1 && y < h; y++) {
            for (int column = 2 * atX; column <= 2 * atX + 1 && column < w; column++) {
                sum += floorByHand(x, floor - 1, column, y);
                many++;
            }
        }
        return sum / many;
    }

    private static void floorsCutOff() {
        says("y: squares of 2 by 2 of it, from 0, 0 on (cut off at the rim), each all together by how many");
        for (int w = 4; w <= 16; w += 2) {
            for (int h = 4; h <= 16; h += 2) {
                int[][] at = {{0, 0}, {w - 1, h - 1}, {w - 1, 0}, {0, h - 1}};
                for (int[] a : at) {
                    RawPictures x = with(w, h, 0, "f:0;y:1,1,1");
                    x.scene(1, 11, 5);
                    for (int f = 1; f <= 3; f++) {
                        int want = floorByHand(x, f, a[0] >> f, a[1] >> f);
                        due(w + " by " + h + ", FLOOR " + f + " at " + a[0] + ", " + a[1], x.tone(2, f, a[0], a[1]), want);
                    }
                }
            }
        }
    }

    private static void blurAtTheRim() {
        says("BLUR: 3 by 3 around it (MIRRORED), those beside it twice, itself four times, the others once, together by 16");
        // n:99,99 leaves the BLUR itself; GREEN of even rows 0 0 1200 1600, of odd ones 0 400 1600 1600
        RawPictures x = step("f:0;n:99,99");
        int[][] green = {{0, 0, 100}, {3, 3, 1500}, {2, 0, 1150}, {1, 1, 450}, {3, 0, 1500}, {0, 3, 100}, {1, 3, 450}};
        for (int[] g : green) {
            due("GREEN at " + g[0] + ", " + g[1], x.left(2, g[0], g[1], 1), g[2]);
        }
        due("RED", x.left(2, 1, 1, 0), 650);
        due("BLUE", x.left(2, 2, 1, 2), 1000);
        says("BLUR: those of its COLOUR");
        plain(x, 10, 20, 30);
        due("RED", x.left(2, 0, 0, 0), 160);
        due("BLUE", x.left(2, 3, 3, 2), 480);
        // a lone RED one: 1600 by 16 times 4, beside it 1600 by 2 and so on
        x = with(8, 8, 0, "f:0;n:99,99");
        x.pixel(4, 4, 100);
        due("4 times 1600, 8 times 800, 4 times 400 by 16", x.left(2, 4, 4, 0), 900);
    }

    private static void noiseTakenOff() {
        says("n: LIMIT = 16 A and (B times BLUR) by 64; no farther from 0 than LIMIT becomes 0, another one comes nearer by LIMIT");
        // at 2, 0 BLUR 1150, DETAIL 50; at 1, 1 BLUR 450, DETAIL -50
        String[] text = {"0,0", "3,0", "4,0", "0,2", "0,3", "0,7", "0,8", "2,1", "99,99"};
        int[] above = {1200, 1152, 1150, 1165, 1150, 1150, 1150, 1151, 1150};
        int[] below = {400, 448, 450, 414, 421, 449, 450, 439, 450};
        for (int i = 0; i < text.length; i++) {
            RawPictures x = step("f:0;n:" + text[i]);
            due("DETAIL 50, n:" + text[i], x.left(2, 2, 0, 1), above[i]);
            due("DETAIL -50, n:" + text[i], x.left(2, 1, 1, 1), below[i]);
        }
        says("(All by what was ahead of the STAGE.)");
        RawPictures x = step("f:0;n:99,99");
        due("the last is as the first one", x.left(2, 3, 3, 1) + x.left(2, 0, 0, 1), 1600);
    }

    private static void sharpened() {
        says("s: (DETAIL times N) by 16, held within -16 M and 16 M, and LEVEL, CLIPPED");
        String[] text = {"16,99", "5,99", "99,1", "99,0", "0,99", "16,3", "16,4", "99,99"};
        int[] above = {1250, 1215, 1216, 1200, 1200, 1248, 1250, 1509};
        int[] below = {350, 385, 384, 400, 400, 352, 350, 91};
        for (int i = 0; i < text.length; i++) {
            RawPictures x = step("f:0;s:" + text[i]);
            due("DETAIL 50, s:" + text[i], x.left(2, 2, 0, 1), above[i]);
            due("DETAIL -50, s:" + text[i], x.left(2, 1, 1, 1), below[i]);
        }
        RawPictures x = step("f:0;s:16,99");
        due("RED: DETAIL -50", x.left(2, 1, 1, 0), 550);
        due("BLUE: DETAIL 400", x.left(2, 2, 1, 2), 1800);
        due("below 0", x.left(2, 0, 0, 1), 0);
        x.scene(2, 0, 255);
        due("above TOP", x.left(2, 3, 3, 1), 4095);
        says("(All by what was ahead of the STAGE.)");
        x = step("f:0;s:16,99");
        due("3, 3 by what 2, 2 was", x.left(2, 3, 3, 1), 1700);
    }
}
