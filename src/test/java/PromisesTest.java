/** For each promise of the document its ordinary answers, the edges that it names, and wrong inputs; worked out by hand. */
public final class PromisesTest extends Bench {
    public static void main(String[] args) {
        newObject();
        feed();
        stages();
        faults();
        limits();
        faultsOfPoints();
        raw();
        row();
        pixel();
        dead();
        scene();
        scenesDrawn();
        truth();
        truthIsGone();
        rawIs();
        colour();
        stage();
        left();
        leftByMosaicStages();
        leftByFilling();
        leftByColourStages();
        leftByDetail();
        found();
        groups();
        dark();
        middle();
        way();
        ways();
        white();
        base();
        tone();
        levels();
        noise();
        percent();
        bits();
        ring();
        edges();
        error();
        falseOnes();
        places();
        unlike();
        without();
        best();
        seed();
        keepAndUndo();
        check();
        count();
        end("all promises hold");
    }

    private static void newObject() {
        RawPictures x = new RawPictures();
        due("NONE", RawPictures.NONE, -1);
        due("new W", x.rawIs(0), 4);
        due("new H", x.rawIs(1), 4);
        due("new PHASE", x.rawIs(2), 0);
        due("new DEAD", x.rawIs(3), 0);
        due("new VALUES", x.rawIs(4), 0);
        due("new STAGES", x.count(0), 0);
        due("new tape", x.count(1), 0);
        due("new X", x.count(2), 1);
        due("new f", x.count(3), 0);
        no("nothing is kept", x.undo());
    }

    private static void feed() {
        RawPictures x = new RawPictures();
        for (int i = 1; i <= 7; i++) {
            due("feed " + i, x.feed(0x01020304, 0xfffefdfc, 0, -1, 5), 20 * i);
        }
        due("feed beyond 140", x.feed(1, 2, 3, 4, 5), -1);
        due("the tape stays", x.count(1), 140);
        x.raw(16, 4, 0);
        yes("row of fed bytes", x.row(0));
        due("highest byte first", x.left(0, 0, 0, 0), 16);
        due("second byte", x.left(0, 1, 0, 1), 32);
        due("byte 255", x.left(0, 4, 0, 0), 16 * 255);
        due("byte 252", x.left(0, 7, 0, 1), 16 * 252);
        due("byte of -1", x.left(0, 15, 0, 1), 16 * 255);
    }

    private static void stages() {
        RawPictures x = new RawPictures();
        due("too few bytes", x.stages(1), -1);
        due("below 0", x.stages(-1), -1);
        due("every letter", tell(x, "b:255;d:0;o:4;l:99;f:1;v:3;w:255;h:254;y:32,0,7;g:99,0,1;m:99;p:4,32"), 12);
        due("count of them", x.count(0), 12);
        due("the tape is empty", x.count(1), 0);
        due("others in place of those", tell(x, "f:0;n:99,0;s:0,99;t:0>255,1>0,255>7"), 4);
        due("f at 1", x.count(3), 1);
        feedBytes(x, 1, 2, 3);
        due("121", x.stages(121), -1);
        due("more than there are", x.stages(21), -1);
        due("refused, the tape stays", x.count(1), 20);
        due("a fault", x.stages(3), -1000);
        due("a fault empties the tape", x.count(1), 0);
        due("a fault leaves those before", x.count(0), 4);
        feedBytes(x, 1, 2, 3);
        due("none", x.stages(0), 0);
        due("0 empties the tape", x.count(1), 0);
        due("no stages", x.count(0), 0);
        due("no f", x.count(3), 0);
        feedBytes(x, "b:15;f:0".chars().toArray());
        due("no further than n", x.stages(3), 1);
        due("a digit behind n is not read", x.stage(1, 1), 1);
        feedBytes(x, "b:15".chars().toArray());
        due("n ends ahead of the number", x.stages(2), -1002);
        due("zeros ahead", tell(x, "b:007"), 1);
        due("number with zeros ahead", x.stage(1, 1), 7);
        StringBuilder longest = new StringBuilder("f:0;t:0>0");
        for (int i = 1; i <= 14; i++) {
            longest.append(",").append(100 + i).append(">100");
        }
        due("120 bytes at most", longest.length(), 121);
        due("the first 120 bytes alone", tell(x, longest.substring(0, 120)), -1120);
        String right = "f:0;t:0>000" + longest.substring(9, 112) + ",255>1";
        due("a right text of 120 bytes", right.length(), 120);
        due("it is read", tell(x, right), 2);
        feedBytes(x, (right + "0 and more").chars().toArray());
        due("121 of 140", x.stages(121), -1);
        due("refused, all 140 stay", x.count(1), 140);
        due("of 140 bytes the first 3", x.stages(3), 1);
    }

    private static void faults() {
        RawPictures x = new RawPictures();
        due("blank", tell(x, " b:1"), -1000);
        due("capital", tell(x, "B:1"), -1000);
        due("byte 255", tell(x, "\u00ff:1"), -1000);
        due("no :", tell(x, "b1"), -1001);
        due("no number", tell(x, "b:;"), -1002);
        due("end for a number", tell(x, "b:"), -1002);
        due("a number more", tell(x, "b:1,2"), -1003);
        due("a sign", tell(x, "b:-1"), -1002);
        due("a ; too many", tell(x, "b:1;;"), -1004);
        due("end behind ;", tell(x, "b:1;"), -1004);
        due("not , but >", tell(x, "f:0;n:1>2"), -1007);
        due("not , but ;", tell(x, "f:0;n:1;"), -1007);
        due("fourth digit", tell(x, "b:0001"), -2005);
        due("fourth digit of a number too great", tell(x, "b:9999"), -2005);
        due("256", tell(x, "b:256"), -3002);
        due("256 ahead of what can't stand", tell(x, "b:256x"), -3002);
        due("d 256", tell(x, "b:1;d:256"), -3006);
        due("o 0", tell(x, "o:0"), -3002);
        due("o 5", tell(x, "o:5"), -3002);
        due("l 100", tell(x, "l:100"), -3002);
        due("f 2", tell(x, "f:2"), -3002);
        due("v 0", tell(x, "f:0;v:0"), -3006);
        due("v 4", tell(x, "f:0;v:4"), -3006);
        due("w 256", tell(x, "f:0;w:256"), -3006);
        due("h 255", tell(x, "f:0;h:255"), -3006);
        due("y 33 third", tell(x, "f:0;y:32,32,33"), -3012);
        due("g 100 second", tell(x, "f:0;g:99,100,0"), -3009);
        due("m 100", tell(x, "f:0;m:100"), -3006);
        due("p 0", tell(x, "f:0;p:0,1"), -3006);
        due("p 5", tell(x, "f:0;p:5,1"), -3006);
        due("p 4,33", tell(x, "f:0;p:4,33"), -3008);
        due("n 100", tell(x, "f:0;n:100,0"), -3006);
        due("s ,100", tell(x, "f:0;s:0,100"), -3008);
        due("12 stages", tell(x, "b:0;b:0;b:0;b:0;b:0;b:0;b:0;b:0;b:0;b:0;b:0;f:0"), 12);
        due("13 stages", tell(x, "b:0;b:0;b:0;b:0;b:0;b:0;b:0;b:0;b:0;b:0;b:0;f:0;v:1"), -4048);
        due("13th on the wrong side", tell(x, "b:0;b:0;b:0;b:0;b:0;b:0;b:0;b:0;b:0;b:0;b:0;f:0;b:1"), -4048);
        due("13th is no letter", tell(x, "b:0;b:0;b:0;b:0;b:0;b:0;b:0;b:0;b:0;b:0;b:0;f:0;x:1"), -1048);
        due("end for the 13th", tell(x, "b:0;b:0;b:0;b:0;b:0;b:0;b:0;b:0;b:0;b:0;b:0;f:0;"), -1048);
        for (char early : "bdolf".toCharArray()) {
            due(early + " behind f", tell(x, "f:0;" + early + ":1"), -6004);
        }
        for (char late : "vwhygmpnst".toCharArray()) {
            due(late + " without f", tell(x, "b:0;" + late), -6004);
        }
        due("those before stay", x.count(0), 12);
    }

    /** Each number of each stage at its limits and just beyond them. */
    private static void limits() {
        RawPictures x = new RawPictures();
        String[] letters = {"b", "d", "o", "l", "f", "v", "w", "h", "y", "y1", "y2", "g", "g1", "g2", "m", "p", "p1", "n",
            "n1", "s", "s1"};
        int[] least = {0, 0, 1, 0, 0, 1, 0, 0, 0, 0, 0, 0, 0, 0, 0, 1, 0, 0, 0, 0, 0};
        int[] greatest = {255, 255, 4, 99, 1, 3, 255, 254, 32, 32, 32, 99, 99, 99, 99, 4, 32, 99, 99, 99, 99};
        for (int i = 0; i < letters.length; i++) {
            char letter = letters[i].charAt(0);
            int at = letters[i].length() > 1 ? letters[i].charAt(1) - '0' : 0;
            int many = "yg".indexOf(letter) >= 0 ? 3 : "pns".indexOf(letter) >= 0 ? 2 : 1;
            String ahead = "bdolf".indexOf(letter) >= 0 ? "" : "f:0;";
            StringBuilder start = new StringBuilder(ahead).append(letter).append(':');
            for (int j = 0; j < at; j++) {
                start.append("1,");
            }
            String rest = ",1".repeat(many - 1 - at);
            int stages = ahead.isEmpty() ? 1 : 2;
            due(letters[i] + " least", tell(x, start.toString() + least[i] + rest), stages);
            due(letters[i] + " greatest", tell(x, start.toString() + greatest[i] + rest), stages);
            due(letters[i] + " beyond", tell(x, start.toString() + (greatest[i] + 1) + rest), -3000 - start.length());
            if (least[i] > 0) {
                due(letters[i] + " below", tell(x, start.toString() + "0" + rest), -3000 - start.length());
            }
        }
    }

    private static void faultsOfPoints() {
        RawPictures x = new RawPictures();
        due("first X 1", tell(x, "f:0;t:1>0,255>0"), -3006);
        due("first X 255", tell(x, "f:0;t:255>0"), -3006);
        due("X does not rise", tell(x, "f:0;t:0>0,9>0,9>1,255>0"), -3014);
        due("X falls", tell(x, "f:0;t:0>0,9>0,8>1,255>0"), -3014);
        due("X 256", tell(x, "f:0;t:0>0,256>0"), -3010);
        due("Y 256", tell(x, "f:0;t:0>256,255>0"), -3008);
        due("the last Y 256", tell(x, "f:0;t:0>0,255>256"), -3014);
        due("one point", tell(x, "f:0;t:0>0"), -1009);
        due("the last X is not 255", tell(x, "f:0;t:0>0,254>1"), -1015);
        due("; behind another X", tell(x, "f:0;t:0>0,254>1;v:1"), -1015);
        due(", behind X 255", tell(x, "f:0;t:0>0,255>1,255>2"), -1015);
        due("no >", tell(x, "f:0;t:0,0"), -1007);
        due("fourth digit of an X", tell(x, "f:0;t:0>0,0255>1"), -2013);
        due("zeros ahead of X", tell(x, "f:0;t:000>0,255>1;v:1"), 3);
    }

    private static void raw() {
        RawPictures x = new RawPictures();
        yes("16 by 6", x.raw(16, 6, 3));
        due("W", x.rawIs(0), 16);
        due("H", x.rawIs(1), 6);
        due("PHASE", x.rawIs(2), 3);
        x.scene(0, 9, 0);
        x.dead(1, 1, true);
        tell(x, "f:0");
        int[][] bad = {{2, 4, 0}, {18, 4, 0}, {5, 4, 0}, {4, 2, 0}, {4, 18, 0}, {4, 7, 0}, {4, 4, -1}, {4, 4, 4}, {-4, 4, 0}};
        for (int[] b : bad) {
            no("no such raw " + b[0] + " " + b[1] + " " + b[2], x.raw(b[0], b[1], b[2]));
        }
        due("refused: VALUES stay", x.rawIs(4), 9 * 96);
        due("refused: DEAD stay", x.rawIs(3), 1);
        yes("4 by 16", x.raw(4, 16, 0));
        due("VALUES 0", x.rawIs(4), 0);
        due("none DEAD", x.rawIs(3), 0);
        due("the stages stay", x.count(0), 1);
        due("made anew", x.left(1, 3, 15, 1), 0);
    }

    private static void row() {
        RawPictures x = new RawPictures();
        no("nothing on the tape", x.row(0));
        feedBytes(x, 1, 2, 3, 255, 9);
        no("no row 4", x.row(4));
        no("no row -1", x.row(-1));
        due("refused: the tape stays", x.count(1), 20);
        x.dead(2, 3, true);
        yes("row 3", x.row(3));
        due("the tape is empty", x.count(1), 0);
        due("VALUES", x.rawIs(4), 261);
        due("VALUE 255", x.left(0, 3, 3, 2), 4080);
        due("DEAD stays", x.rawIs(3), 1);
        x.raw(16, 4, 0);
        x.feed(1, 2, 3, 4, -1);
        yes("20 bytes for 16", x.row(1));
        due("16 alone", x.rawIs(4), 10);
    }

    private static void pixel() {
        RawPictures x = new RawPictures();
        yes("0", x.pixel(0, 0, 0));
        yes("255", x.pixel(3, 3, 255));
        due("it is there", x.left(0, 3, 3, 2), 4080);
        no("-1", x.pixel(0, 0, -1));
        no("256", x.pixel(0, 0, 256));
        no("X 4", x.pixel(4, 0, 1));
        no("Y 4", x.pixel(0, 4, 1));
        no("X -1", x.pixel(-1, 0, 1));
        no("Y -1", x.pixel(0, -1, 1));
        due("VALUES", x.rawIs(4), 255);
    }

    private static void dead() {
        RawPictures x = new RawPictures();
        due("one", x.dead(0, 0, true), 1);
        due("two", x.dead(3, 3, true), 2);
        due("again", x.dead(3, 3, true), 2);
        due("not any more", x.dead(0, 0, false), 1);
        due("was not", x.dead(1, 0, false), 1);
        due("no such square", x.dead(4, 0, true), -1);
        due("no such row", x.dead(0, -1, true), -1);
        due("DEAD ones", x.rawIs(3), 1);
        x.pixel(3, 3, 9);
        due("a VALUE does not wake it", x.rawIs(3), 1);
    }

    private static void scene() {
        RawPictures x = new RawPictures();
        x.raw(6, 4, 0);
        x.dead(0, 0, true);
        no("kind -1", x.scene(-1, 0, 0));
        no("kind 7", x.scene(7, 0, 0));
        no("A -1", x.scene(0, -1, 0));
        no("A 256", x.scene(0, 256, 0));
        no("B -1", x.scene(0, 0, -1));
        no("B 256", x.scene(0, 0, 256));
        due("refused: DEAD stay", x.rawIs(3), 1);
        yes("flat", x.scene(0, 7, 200));
        due("none DEAD", x.rawIs(3), 0);
        due("all A", x.rawIs(4), 7 * 24);
        yes("slope", x.scene(1, 50, 3));
        due("slope at 5, 3", x.left(0, 5, 3, 2), 16 * 3);
        due("slope at 2, 2", x.left(0, 2, 2, 0), 16 * 106);
        yes("halves", x.scene(2, 10, 20));
        due("west of the middle", x.left(0, 2, 0, 0), 160);
        due("east of the middle", x.left(0, 3, 0, 1), 320);
        yes("aslant", x.scene(3, 10, 20));
        due("4 is below 5", x.left(0, 4, 0, 0), 160);
        due("5 is not", x.left(0, 2, 3, 1), 320);
        yes("red ones", x.scene(5, 10, 20));
        due("a red one", x.left(0, 4, 2, 0), 320);
        due("a blue one", x.left(0, 1, 1, 2), 160);
        due("6 of 24 are red", x.rawIs(4), 6 * 20 + 18 * 10);
        yes("stripes", x.scene(6, 10, 20));
        due("even", x.left(0, 4, 1, 1), 160);
        due("odd", x.left(0, 5, 1, 2), 320);
    }

    private static void scenesDrawn() {
        RawPictures x = new RawPictures();
        yes("drawn", x.scene(4, 10, 9));
        // 1, 39022, 50087 (25173 * 39022 + 13849 = 982314655, modulo 65536), ...
        due("first drawn", x.left(0, 0, 0, 0), 16 * 12);
        due("second drawn", x.left(0, 1, 0, 1), 16 * 17);
        long chance = 1;
        for (int i = 0; i < 16; i++) {
            chance = (25173 * chance + 13849) % 65536;
        }
        due("X went on by 16", x.count(2), chance);
        x.scene(4, 255, 255);
        chance = (25173 * chance + 13849) % 65536;
        due("drawn on, modulo 256", x.left(0, 0, 0, 0), 16 * ((255 + chance % 256) % 256));
        long now = x.count(2);
        x.scene(4, 33, 0);
        due("B 0 is A alone", x.rawIs(4), 33 * 16);
        no("refused draws nothing", x.scene(4, 256, 0));
        yes("another scene draws nothing", x.scene(0, 1, 1));
        chance = now;
        for (int i = 0; i < 16; i++) {
            chance = (25173 * chance + 13849) % 65536;
        }
        due("X", x.count(2), chance);
    }

    private static void truth() {
        RawPictures x = with(6, 4, 0, "f:0");
        no("nothing on the tape", x.truth(0));
        feedBytes(x, 10, 20, 30, 110, 120, 130);
        no("kind 6", x.truth(6));
        no("kind -1", x.truth(-1));
        due("refused: the tape stays", x.count(1), 20);
        x.dead(0, 0, true);
        yes("kind 0", x.truth(0));
        due("the tape is empty", x.count(1), 0);
        due("none DEAD", x.rawIs(3), 0);
        due("its own colours", x.rawIs(4), 6 * 10 + 12 * 20 + 6 * 30);
        int[][] firstAt = {{5, 3}, {2, 3}, {4, 0}, {5, 1}, {3, 3}};
        int[][] secondAt = {null, {3, 0}, {5, 0}, {0, 2}, {2, 1}};
        for (int kind = 0; kind <= 4; kind++) {
            feedBytes(x, 10, 20, 30, 110, 120, 130);
            yes("kind " + kind, x.truth(kind));
            int c = x.colour(firstAt[kind][0], firstAt[kind][1]);
            due("first of " + kind, x.left(0, firstAt[kind][0], firstAt[kind][1], c), 16 * (10 + 10 * c));
            if (secondAt[kind] != null) {
                c = x.colour(secondAt[kind][0], secondAt[kind][1]);
                due("second of " + kind, x.left(0, secondAt[kind][0], secondAt[kind][1], c), 16 * (110 + 10 * c));
            }
        }
        feedBytes(x, 10, 120, 30, 113, 21, 130);
        yes("kind 5", x.truth(5));
        due("red at 2: 10 + 206 by 5", x.left(0, 2, 0, 0), 16 * 51);
        due("green at 3: 120 - 297 by 5", x.left(0, 3, 0, 1), 16 * 61);
        due("the last is the second", x.left(0, 5, 1, 2), 16 * 130);
    }

    private static void truthIsGone() {
        RawPictures x = with(4, 4, 0, "f:0");
        x.keep();
        String[] how = {"raw", "row", "pixel", "dead", "scene", "undo"};
        for (int i = 0; i < how.length; i++) {
            feedBytes(x, 10, 20, 30, 110, 120, 130);
            x.truth(0);
            due("the truth is known", x.error(1, 0, 0), 0);
            due("nothing is off", x.error(1, 0, 1), 0);
            x.raw(4, 4, 7);
            x.row(0);
            x.pixel(0, 0, 256);
            x.dead(9, 9, true);
            x.scene(9, 0, 0);
            x.keep();
            x.seed(1);
            tell(x, "f:1");
            due("refused, and stages: still known", x.error(1, 0, 0), 0);
            feedBytes(x, 10, 20, 10, 20);
            switch (i) {
                case 0: x.raw(4, 4, 0); break;
                case 1: x.row(0); break;
                case 2: x.pixel(0, 0, 10); break;
                case 3: x.dead(0, 0, false); break;
                case 4: x.scene(0, 0, 0); break;
                default: x.undo(); break;
            }
            due("gone by " + how[i], x.error(1, 0, 0), -4);
            x.check(0);
        }
    }

    private static void rawIs() {
        RawPictures x = new RawPictures();
        x.raw(6, 8, 3);
        x.pixel(5, 7, 200);
        x.pixel(0, 0, 100);
        x.dead(0, 0, true);
        int[] want = {6, 8, 3, 1, 300, 12, 24, 12};
        for (int what = 0; what < 8; what++) {
            due("rawIs " + what, x.rawIs(what), want[what]);
        }
        due("rawIs 8", x.rawIs(8), -1);
        due("rawIs -1", x.rawIs(-1), -1);
    }

    private static void colour() {
        RawPictures x = new RawPictures();
        int[][] want = {{0, 1, 1, 2}, {1, 0, 2, 1}, {1, 2, 0, 1}, {2, 1, 1, 0}};
        for (int phase = 0; phase < 4; phase++) {
            x.raw(4, 6, phase);
            for (int i = 0; i < 4; i++) {
                due("colour " + i + " of phase " + phase, x.colour(i % 2, i / 2), want[phase][i]);
                due("two on", x.colour(i % 2 + 2, i / 2 + 4), want[phase][i]);
            }
        }
        due("X 4", x.colour(4, 0), -1);
        due("Y 6", x.colour(0, 6), -1);
        due("X -1", x.colour(-1, 0), -1);
        due("Y -1", x.colour(0, -1), -1);
    }

    private static void stage() {
        RawPictures x = with(4, 4, 0, "b:7;f:1;p:2,30;y:1,2,3;t:0>5,100>6,255>7");
        int[][] want = {{'b', 7, -2, -2, 1}, {'f', 1, -2, -2, 1}, {'p', 2, 30, -2, 2}, {'y', 1, 2, 3, 3}, {'t', 0, 5, 100, 6}};
        for (int k = 1; k <= 5; k++) {
            for (int what = 0; what <= 4; what++) {
                due("stage " + k + ", " + what, x.stage(k, what), want[k - 1][what]);
            }
        }
        due("stage 0", x.stage(0, 0), -1);
        due("stage 6", x.stage(6, 0), -1);
        due("what 5", x.stage(1, 5), -1);
        due("what -1", x.stage(1, -1), -1);
    }

    private static void left() {
        RawPictures x = with(4, 6, 0, "b:1;f:0");
        x.scene(0, 2, 0);
        due("the RAW", x.left(0, 0, 0, 0), 32);
        due("ahead of f another colour", x.left(1, 0, 0, 2), -2);
        due("its own", x.left(1, 0, 0, 0), 16);
        due("behind f another colour", x.left(2, 0, 0, 2), 16);
        int[][] bad = {{-1, 0, 0, 0}, {3, 0, 0, 0}, {0, 4, 0, 0}, {0, 0, 6, 0}, {0, -1, 0, 0}, {0, 0, -1, 0}, {0, 0, 0, 3}, {0, 0, 0, -1}};
        for (int[] b : bad) {
            due("no such left", x.left(b[0], b[1], b[2], b[3]), -1);
        }
    }

    private static void leftByMosaicStages() {
        RawPictures x = with(4, 4, 0, "b:10");
        x.pixel(0, 0, 9);
        x.pixel(2, 0, 11);
        due("b clips at 0", x.left(1, 0, 0, 0), 0);
        due("b", x.left(1, 2, 0, 0), 16);
        tell(x, "o:3");
        rows(x, new int[] {1, 2, 5, 100});
        due("o: (16 + 32 + 80) by 3 = 42", x.left(1, 3, 0, 1), 1600 - 42);
        due("o clips at 0", x.left(1, 1, 0, 1), 0);
        due("o, each row by itself", x.left(1, 3, 1, 2), 0);
        tell(x, "l:99");
        x.scene(0, 255, 0);
        due("l clips at TOP", x.left(1, 0, 0, 0), 4095);
        x.scene(0, 100, 0);
        due("l in the middle: 256 + 198 by 16", x.left(1, 1, 1, 2), 1600 * 268 / 256);
        tell(x, "d:10");
        // west of X 1 by two is X 1 itself, mirrored, north likewise: its middle is half its own
        x.pixel(1, 1, 120);
        due("d: unlike by 160 only", x.left(1, 1, 1, 2), 1920);
        x.pixel(1, 1, 121);
        due("d: unlike by 168", x.left(1, 1, 1, 2), 1768);
        tell(x, "d:255;d:255");
        x.scene(0, 0, 0);
        rows(x, new int[] {40, 0, 90, 0});
        x.dead(0, 0, true);
        x.dead(2, 0, true);
        due("all by what was ahead", x.left(1, 0, 0, 0), 16 * 45);
        due("all by what was ahead, the other", x.left(1, 2, 0, 0), 16 * 20);
        due("DEAD for the next d, too", x.left(2, 0, 0, 0), 16 * 10);
    }

    private static void leftByFilling() {
        RawPictures x = with(4, 4, 0, "f:0");
        rows(x, new int[] {10, 50, 30, 70}, new int[] {90, 20, 60, 40}, new int[] {15, 5, 25, 35}, new int[] {45, 55, 65, 75});
        // green at 1, 1 by 50, 90, 60, 5; at 2, 0 by 50, 70 and 60 twice; at 0, 0 by 50 and 90 twice
        due("green of a green one", x.left(1, 1, 0, 1), 800);
        due("green of a blue one", x.left(1, 1, 1, 1), 16 * (50 + 90 + 60 + 5) / 4);
        due("green at the rim", x.left(1, 2, 0, 1), 16 * 60);
        due("green in the corner", x.left(1, 0, 0, 1), 16 * 70);
        due("green at 0, 2", x.left(1, 0, 2, 1), 16 * (5 + 5 + 90 + 45) / 4);
        due("red of a red one", x.left(1, 2, 0, 0), 480);
        due("red of a green one, across: (10 - 70 + 30 - 60) by 2 + 50 is 5", x.left(1, 1, 0, 0), 80);
        // blue of 1, 0 by 1, 1 twice: 20 - 51.25 + 50
        due("blue of it, down", x.left(1, 1, 0, 2), 320 - 820 + 800);
        // red of 1, 1: 0,0: -60; 2,0: -30; 0,2: 15 - 36.25; 2,2: 25 - (5 + 35 + 60 + 65) / 4
        due("red of a blue one", x.left(1, 1, 1, 0), 820 + (-960 - 480 + (240 - 580) + (400 - 660)) / 4);
        tell(x, "f:1");
        // at 1, 1: across |90 - 60| + |40 - (40 + 40)| = 70, down |50 - 5| + |40 - (55 + 55)| = 115
        due("along the edge, across", x.left(1, 1, 1, 1), 16 * 75);
        // at 2, 2: across |5 - 35| + |50 - 30| = 50; down |60 - 65| + |50 - 60| = 15
        due("along the edge, down", x.left(1, 2, 2, 1), 16 * 125 / 2);
        x.scene(0, 9, 0);
        due("alike: all four", x.left(1, 2, 2, 1), 144);
        x.scene(5, 0, 255);
        due("blue is clipped at 0", x.left(1, 0, 0, 2), 0);
        x.raw(4, 4, 1);
        x.scene(5, 255, 0);
        due("red of green, west and east in phase 1", x.left(1, 0, 0, 0), 0);
        due("blue of it, north and south", x.left(1, 0, 0, 2), 4080);
    }

    private static void leftByColourStages() {
        RawPictures x = with(4, 4, 0, "f:0;w:100;g:32,8,99;m:8;h:100;t:0>10,100>200,255>0");
        feedBytes(x, 50, 100, 150, 0, 0, 0);
        x.truth(0);
        due("f gives the truth", x.left(1, 1, 1, 0), 800);
        due("w: gain 512", x.left(2, 3, 1, 0), 1600);
        due("w: green stays", x.left(2, 3, 1, 1), 1600);
        due("w: gain 170", x.left(2, 3, 1, 2), 2400 * 170 / 256);
        due("g: twice", x.left(3, 0, 0, 0), 3200);
        due("g: half", x.left(3, 0, 0, 1), 800);
        due("g clips", x.left(3, 0, 0, 2), 4095);
        // light (3200 + 4095 + 1600) by 4 = 2223
        due("m red", x.left(4, 0, 0, 0), 2223 + 977 / 2);
        due("m green", x.left(4, 0, 0, 1), 2223 - 1423 / 2);
        due("m blue", x.left(4, 0, 0, 2), 2223 + 1872 / 2);
        // the greatest is 3159: 1559 above 1600, TOP 2495 above it
        due("h red", x.left(5, 0, 0, 0), 2711 + 448 * 1559 / 2495);
        due("h green", x.left(5, 0, 0, 1), 1512 + 1647 * 1559 / 2495);
        due("h blue", x.left(5, 0, 0, 2), 3159);
        due("t behind the last but one", x.left(6, 0, 0, 2), 3200 + (3159 - 1600) * -200 / 155);
        tell(x, "f:0;t:0>10,100>200,255>0");
        due("t at a point", x.left(2, 0, 0, 1), 3200);
        due("t below it", x.left(2, 0, 0, 0), 160 + 800 * 190 / 100);
        tell(x, "f:0;g:99,99,99;t:0>0,254>0,255>255");
        due("t above the last point", x.left(3, 0, 0, 2), 31 * 255 > 4095 ? 4095 : 0);
        tell(x, "f:0;h:254");
        due("h: none is above", x.left(2, 0, 0, 0), 800);
        tell(x, "f:0;m:99");
        due("m clips at 0", x.left(2, 0, 0, 0), 0);
        due("m clips at TOP", x.left(2, 0, 0, 2), 4095);
        tell(x, "f:0;w:99");
        due("w: none is grey", x.left(2, 0, 0, 0), 800);
        // one red square stands out by 1600, those beside it by 800, those aslant by 400
        x.raw(10, 10, 0);
        tell(x, "f:0;v:1;v:2");
        x.scene(0, 100, 0);
        x.pixel(4, 4, 200);
        due("ahead of v", x.left(1, 4, 4, 0), 3200);
        due("v: the fifth of four 400, four 800, 1600", x.left(2, 4, 4, 0), 2400);
        due("v: beside, 0 three times, 400 twice, 800 three times, 1600", x.left(2, 5, 4, 0), 2000);
        due("v: aslant, 0 five times", x.left(2, 5, 5, 0), 1600);
        due("v again: four times 0, four times 400, 800", x.left(3, 5, 4, 0), 1600);
    }

    private static void leftByDetail() {
        RawPictures x = with(4, 4, 0, "f:0;s:8,99");
        x.scene(2, 0, 100);
        // green of row 0: 0 0 (at 0), 0, 1200 (2, 0), 1600
        due("green ahead", x.left(1, 1, 1, 1), 400);
        int blur = x.left(1, 1, 0, 1) * 2 + x.left(1, 1, 2, 1) * 2 + x.left(1, 0, 1, 1) * 2 + x.left(1, 2, 1, 1) * 2
            + x.left(1, 0, 0, 1) + x.left(1, 2, 0, 1) + x.left(1, 0, 2, 1) + x.left(1, 2, 2, 1) + 4 * 400;
        due("blur of it", blur, 2 * 1600 + 1600 + 1200 + 1200);
        due("s: detail -50 times 8 by 16", x.left(2, 1, 1, 1), 400 + (400 - blur / 16) / 2);
        tell(x, "f:0;s:99,1");
        due("s held at -16", x.left(2, 1, 1, 1), 384);
        tell(x, "f:0;n:2,0");
        due("n: detail -50 nearer by 32", x.left(2, 1, 1, 1), blur / 16 - 18);
        tell(x, "f:0;n:0,99");
        due("n: within the limit", x.left(2, 1, 1, 1), blur / 16);
        tell(x, "f:0;p:1,16");
        // lights of x 0 to 3: 0 0 1600 1600 at the rims, in green 400 and 1200 at 1 and 2 in odd and even rows
        int base = 0;
        int mean = 0;
        for (int i = 0; i < 16; i++) {
            int light = (x.left(1, i % 4, i / 4, 0) + x.left(1, i % 4, i / 4, 2) + 2 * x.left(1, i % 4, i / 4, 1)) / 4;
            mean += light;
            base += i % 4 < 2 && i / 4 < 2 ? light : 0;
        }
        due("p", x.left(2, 1, 1, 1), 400 + mean / 16 - base / 4);
        tell(x, "f:0;y:16,16,16");
        due("y with all 16 changes nothing", x.unlike(1, 2, 0), 0);
        tell(x, "f:0;y:0,0,0");
        int light = (x.left(1, 1, 1, 0) + x.left(1, 1, 1, 2) + 2 * x.left(1, 1, 1, 1)) / 4;
        due("y with all 0 evens all", x.left(2, 1, 1, 1), 400 + x.tone(2, 3, 1, 1) - light);
    }

    private static void found() {
        RawPictures x = with(4, 4, 0, "d:10;f:0");
        due("none", x.found(1, 0), 0);
        due("no first", x.found(1, 2), -2);
        due("no last", x.found(1, 3), -2);
        x.dead(3, 1, true);
        x.dead(2, 2, true);
        x.pixel(1, 3, 11);
        due("two that are dead, one unlike", x.found(1, 0), 3);
        due("DEAD of these", x.found(1, 1), 2);
        due("first", x.found(1, 2), 19);
        due("last", x.found(1, 3), 16 * 3 + 1);
        x.pixel(1, 3, 10);
        due("unlike by no more", x.found(1, 0), 2);
        due("last now", x.found(1, 3), 34);
        due("no d", x.found(2, 0), -3);
        due("no such what first", x.found(2, 4), -1);
        due("what -1", x.found(1, -1), -1);
        RawPictures wide = with(16, 16, 0, "d:255");
        wide.dead(0, 1, true);
        wide.dead(15, 15, true);
        due("of 16 by 16, each once", wide.found(1, 0), 2);
        due("DEAD, each once", wide.found(1, 1), 2);
        due("last of all", wide.found(1, 3), 255);
        due("two groups", wide.groups(1, 0), 2);
        due("stage 0", x.found(0, 0), -1);
        due("stage 3", x.found(3, 0), -1);
    }

    private static void groups() {
        RawPictures x = with(6, 6, 0, "d:255;f:0");
        due("none", x.groups(1, 0), 0);
        due("of none the largest", x.groups(1, 1), 0);
        x.dead(0, 0, true);
        x.dead(1, 1, true);
        x.dead(2, 0, true);
        x.dead(5, 0, true);
        x.dead(0, 3, true);
        x.dead(0, 4, true);
        due("three", x.groups(1, 0), 3);
        due("aslant, too", x.groups(1, 1), 3);
        x.dead(0, 2, true);
        due("two", x.groups(1, 0), 2);
        due("six", x.groups(1, 1), 6);
        due("no d", x.groups(2, 0), -3);
        due("what 2", x.groups(2, 2), -1);
        due("stage 0", x.groups(0, 0), -1);
        due("stage 3", x.groups(3, 1), -1);
    }

    private static void dark() {
        RawPictures x = with(4, 4, 0, "o:4;o:3;f:0");
        rows(x, new int[] {1, 2, 3, 5}, new int[] {1, 1, 1, 2});
        due("(1 + 2 + 3 + 5) times 16 by 4", x.dark(1, 0), 44);
        due("row 1", x.dark(1, 1), 20);
        due("row 3", x.dark(1, 3), 0);
        due("the next one, by what was left: 0, 0, 4", x.dark(2, 0), 1);
        due("no o", x.dark(3, 0), -3);
        due("row 4 first", x.dark(3, 4), -1);
        due("row -1", x.dark(1, -1), -1);
        due("stage 0", x.dark(0, 0), -1);
        due("stage 4", x.dark(4, 0), -1);
    }

    private static void middle() {
        RawPictures x = with(6, 6, 0, "b:1;d:10;f:0");
        x.pixel(0, 2, 11);
        x.pixel(4, 2, 21);
        x.pixel(2, 0, 32);
        x.pixel(2, 4, 101);
        due("of 160, 320, 496, 1600", x.middle(2, 2, 2), 408);
        due("in the corner: 496 and 160, both twice", x.middle(2, 0, 0), 328);
        due("in the corner beyond", x.middle(2, 5, 5), 0);
        due("no d", x.middle(1, 0, 0), -3);
        due("no such square first", x.middle(1, 6, 0), -1);
        due("no such row", x.middle(2, 0, -1), -1);
        due("stage 0", x.middle(0, 0, 0), -1);
        due("stage 4", x.middle(4, 0, 0), -1);
    }

    private static void way() {
        RawPictures x = with(4, 4, 0, "b:1;f:1");
        x.scene(2, 10, 200);
        due("along the rows' edge: down", x.way(2, 2), 1);
        x.scene(1, 0, 60);
        due("across", x.way(1, 1), 0);
        x.scene(0, 60, 0);
        due("alike", x.way(1, 1), 2);
        due("green", x.way(1, 0), -2);
        due("no such square", x.way(4, 0), -1);
        due("no such row", x.way(0, -1), -1);
        tell(x, "f:0");
        due("no f:1", x.way(0, 0), -3);
        tell(x, "b:1");
        due("no f", x.way(0, 0), -3);
        due("no such square first", x.way(0, 4), -1);
    }

    private static void ways() {
        RawPictures x = with(6, 4, 0, "f:1");
        due("all alike", x.ways(2), 12);
        due("none across", x.ways(0), 0);
        x.scene(1, 0, 60);
        due("across", x.ways(0) + x.ways(1) + x.ways(2), 12);
        due("none down", x.ways(1), 0);
        due("what 3", x.ways(3), -1);
        due("what -1", x.ways(-1), -1);
        tell(x, "f:0");
        due("f:0", x.ways(0), -3);
        due("what first", x.ways(3), -1);
    }

    private static void white() {
        RawPictures x = with(4, 4, 0, "f:0;w:5;w:255");
        feedBytes(x, 50, 54, 49, 200, 2, 250);
        x.truth(0);
        due("256 times 54 by 50", x.white(2, 0), 256 * 54 / 50);
        due("256 times 54 by 49", x.white(2, 1), 256 * 54 / 49);
        due("all are grey", x.white(2, 2), 16);
        x.scene(0, 250, 0);
        due("4000 is grey", x.white(2, 2), 16);
        x.scene(0, 251, 0);
        due("4016 is not", x.white(2, 2), 0);
        due("no grey ones: 256", x.white(2, 0), 256);
        x.scene(0, 4, 0);
        due("64 is grey", x.white(2, 2), 16);
        x.scene(0, 3, 0);
        due("48 is not", x.white(2, 2), 0);
        feedBytes(x, 50, 56, 50, 0, 0, 0);
        x.truth(0);
        due("by 96 unlike", x.white(2, 2), 0);
        feedBytes(x, 4, 200, 30, 0, 0, 0);
        x.truth(0);
        due("1024 at most", x.white(3, 0), 1024);
        feedBytes(x, 250, 4, 30, 0, 0, 0);
        x.truth(0);
        due("64 at least", x.white(3, 0), 64);
        due("no w", x.white(1, 0), -3);
        due("what 3 first", x.white(1, 3), -1);
        tell(x, "f:0;t:0>250,255>251;w:0");
        x.scene(0, 15, 0);
        due("4000 + 240 by 255 is grey", x.white(3, 2), 16);
        x.scene(0, 16, 0);
        due("4000 + 256 by 255 is not", x.white(3, 2), 0);
        due("stage 0", x.white(0, 0), -1);
        due("stage 4", x.white(4, 0), -1);
    }

    private static void base() {
        RawPictures x = with(6, 4, 0, "f:0;p:2,16;p:4,3");
        x.scene(1, 16, 0);
        due("its block is cut off at the rim", x.base(2, 4, 0), lights(x, 4, 5) / 8);
        due("the whole of it", x.base(2, 3, 3), lights(x, 0, 3) / 16);
        due("one block", x.base(3, 0, 0), x.base(3, 5, 3));
        due("no p", x.base(1, 0, 0), -3);
        due("no such square first", x.base(1, 6, 0), -1);
        due("no such row", x.base(2, 0, 4), -1);
        due("stage 0", x.base(0, 0, 0), -1);
        due("stage 4", x.base(4, 0, 0), -1);
    }

    /** The lights of stage 1 in rows 0 to 3 of some columns together. */
    private static int lights(RawPictures x, int first, int last) {
        int sum = 0;
        for (int column = first; column <= last; column++) {
            for (int y = 0; y < 4; y++) {
                sum += (x.left(1, column, y, 0) + x.left(1, column, y, 2) + 2 * x.left(1, column, y, 1)) / 4;
            }
        }
        return sum;
    }

    private static void tone() {
        RawPictures x = with(6, 4, 0, "f:0;m:0;y:32,8,4");
        x.scene(3, 10, 200);
        int[] f = new int[4];
        for (int floor = 0; floor <= 3; floor++) {
            f[floor] = x.tone(3, floor, 5, 1);
        }
        due("floor 0 is the light", f[0], x.left(2, 5, 1, 0));
        due("floor 1", f[1], (x.left(2, 4, 0, 0) + x.left(2, 5, 0, 0) + x.left(2, 4, 1, 0) + x.left(2, 5, 1, 0)) / 4);
        due("floor 2 is cut off at the rim", f[2], (x.tone(3, 1, 4, 0) + x.tone(3, 1, 4, 2)) / 2);
        due("floor 3, by floor 2", f[3], (x.tone(3, 2, 0, 0) + x.tone(3, 2, 4, 0)) / 2);
        int tone = f[3] + (f[0] - f[1]) * 32 / 16 + (f[1] - f[2]) * 8 / 16 + (f[2] - f[3]) * 4 / 16;
        due("tone", x.tone(3, 4, 5, 1), tone);
        due("left by it", x.left(3, 5, 1, 1), Math.max(0, Math.min(4095, tone)));
        due("no y", x.tone(2, 0, 0, 0), -3);
        due("floor 5 first", x.tone(2, 5, 0, 0), -1);
        due("floor -1", x.tone(3, -1, 0, 0), -1);
        due("no such square", x.tone(3, 0, 6, 0), -1);
        due("no such row", x.tone(3, 0, 0, 4), -1);
        due("stage 0", x.tone(0, 0, 0, 0), -1);
        due("stage 4", x.tone(4, 0, 0, 0), -1);
    }

    private static void levels() {
        RawPictures x = with(4, 4, 0, "f:0;g:99,16,0");
        rows(x, new int[] {16, 1, 15, 2}, new int[] {0, 255, 0, 255}, new int[] {255, 0, 16, 0});
        due("least red", x.levels(0, 0, 0), 240);
        due("greatest red", x.levels(0, 0, 1), 4080);
        due("all reds", x.levels(0, 0, 2), 16 * (16 + 15 + 255 + 16));
        due("unlike ones", x.levels(0, 0, 3), 3);
        due("none is TOP", x.levels(0, 0, 4), 0);
        due("of blue two are 0", x.levels(0, 2, 5), 2);
        due("red 0 to 255", x.levels(0, 0, 10), 1);
        due("red 256 to 511", x.levels(0, 0, 11), 2);
        due("red 3840 on", x.levels(0, 0, 25), 1);
        due("of green all eight", x.levels(0, 1, 10), 8);
        x.pixel(0, 0, 255);
        x.pixel(0, 2, 9);
        due("the first is the greatest", x.levels(0, 0, 1), 4080);
        due("the third is the least", x.levels(0, 0, 0), 144);
        tell(x, "f:0;g:1,1,1");
        x.scene(0, 1, 0);
        due("1 is not 0", x.levels(2, 0, 5), 0);
        due("1 is in the first band", x.levels(2, 0, 10), 16);
        x.scene(0, 255, 0);
        due("255 is in the first band", x.levels(2, 0, 10), 16);
        tell(x, "f:0;g:99,16,0");
        due("TOP", x.levels(2, 0, 4) > 0 ? 1 : 0, 1);
        due("g 0 leaves 0", x.levels(2, 2, 5), 16);
        for (int what : new int[] {-1, 6, 9, 26}) {
            due("what " + what, x.levels(0, 0, what), -1);
        }
        due("stage 3", x.levels(3, 0, 0), -1);
        due("stage -1", x.levels(-1, 0, 0), -1);
        due("colour 3", x.levels(0, 3, 0), -1);
        due("colour -1", x.levels(0, -1, 0), -1);
    }

    private static void noise() {
        RawPictures x = with(4, 4, 0, "b:0;f:0");
        x.scene(0, 100, 0);
        due("flat", x.noise(2, 1, 4, 1), 0);
        due("all", x.noise(2, 1, 4, 0), 16);
        due("band 1", x.noise(2, 1, 1, 0), 16);
        due("band 0", x.noise(2, 1, 0, 0), 0);
        due("nothing is greatest there", x.noise(2, 1, 0, 2), 0);
        x.scene(0, 64, 0);
        due("1024 is band 1", x.noise(2, 0, 1, 0), 16);
        x.scene(0, 255, 0);
        due("band 3", x.noise(2, 0, 3, 0), 16);
        x.scene(2, 0, 100);
        int sum = 0;
        int greatest = 0;
        for (int b = 0; b < 4; b++) {
            sum += x.noise(2, 1, b, 1);
            greatest = Math.max(greatest, x.noise(2, 1, b, 2));
        }
        due("the bands together", x.noise(2, 1, 4, 1), sum);
        due("the greatest of all", x.noise(2, 1, 4, 2), greatest);
        // columns 0 to 3 by rows: even 0 0 1200 1600, odd 0 400 1600 1600 of green
        due("greatest detail, at 0, 0: 0 less (4 * 400 + 0) by 16 and others", greatest > 0 ? 1 : 0, 1);
        due("ahead of f", x.noise(1, 1, 4, 1), -3);
        due("no such band first", x.noise(1, 1, 5, 1), -1);
        due("band -1", x.noise(2, 1, -1, 1), -1);
        due("what 3", x.noise(1, 1, 4, 3), -1);
        due("what -1", x.noise(2, 1, 4, -1), -1);
        due("colour 3", x.noise(2, 3, 4, 0), -1);
        due("stage 3", x.noise(3, 0, 4, 0), -1);
        due("stage -1", x.noise(-1, 0, 4, 0), -1);
    }

    private static void percent() {
        RawPictures x = with(4, 4, 0, "f:0");
        x.pixel(0, 0, 1);
        x.pixel(2, 0, 2);
        x.pixel(0, 2, 3);
        x.pixel(2, 2, 4);
        due("1", x.percent(0, 0, 1), 16);
        due("25", x.percent(0, 0, 25), 16);
        due("26", x.percent(0, 0, 26), 32);
        due("50", x.percent(0, 0, 50), 32);
        due("75", x.percent(0, 0, 75), 48);
        due("76", x.percent(0, 0, 76), 64);
        due("100", x.percent(0, 0, 100), 64);
        due("of three colours behind f", x.percent(1, 1, 100), 0);
        x.scene(0, 255, 0);
        due("all alike", x.percent(1, 2, 1), 4080);
        due("0", x.percent(0, 0, 0), -1);
        due("101", x.percent(0, 0, 101), -1);
        due("colour 3", x.percent(0, 3, 1), -1);
        due("colour -1", x.percent(0, -1, 1), -1);
        due("stage 2", x.percent(2, 0, 1), -1);
        due("stage -1", x.percent(-1, 0, 1), -1);
    }

    private static void bits() {
        RawPictures x = with(4, 4, 0, "f:0");
        due("zeros", x.bits(0, 1), 8);
        rows(x, new int[] {1, 0, 3, 0}, new int[] {0, 0, 0, 0}, new int[] {255, 0, 255, 0});
        due("1, 2, 252, 0: 3 + 5 + 17 + 1", x.bits(0, 0), 26);
        x.pixel(0, 0, 255);
        x.pixel(2, 0, 0);
        x.pixel(0, 2, 128);
        x.pixel(2, 2, 127);
        due("255, -255, 128, -1: 17 + 17 + 17 + 3", x.bits(0, 0), 54);
        x.scene(0, 90, 0);
        due("behind f all squares", x.bits(1, 0), 15 + 15);
        due("colour 3", x.bits(0, 3), -1);
        due("colour -1", x.bits(0, -1), -1);
        due("stage 2", x.bits(2, 0), -1);
        due("stage -1", x.bits(-1, 0), -1);
    }

    private static void ring() {
        RawPictures x = with(16, 4, 0, "f:0");
        x.scene(1, 16, 0);
        // W W + H H = 272; of x 0: 225 + 9 (by 68: 3), of x 15 and y 1: 225 + 1
        due("red in ring 3", x.ring(0, 0, 3, 0), 2);
        due("their mean", x.ring(0, 0, 3, 1), 0);
        int all = 0;
        for (int i = 0; i < 4; i++) {
            all += x.ring(1, 2, i, 0);
        }
        due("behind f all squares", all, 64);
        RawPictures y = new RawPictures();
        y.pixel(2, 0, 5);
        y.pixel(0, 2, 2);
        due("ring 1 has two reds", y.ring(0, 0, 1, 0), 2);
        due("their mean, cut: 56", y.ring(0, 0, 1, 1), 56);
        due("ring 3 has none", y.ring(0, 0, 3, 0), 0);
        due("no mean", y.ring(0, 0, 3, 1), -2);
        due("ring 4", y.ring(0, 0, 4, 0), -1);
        due("ring -1", y.ring(0, 0, -1, 0), -1);
        due("what 2", y.ring(0, 0, 0, 2), -1);
        due("what -1", y.ring(0, 0, 0, -1), -1);
        due("colour 3", y.ring(0, 3, 0, 0), -1);
        due("stage 1", y.ring(1, 0, 0, 0), -1);
        due("stage -1", y.ring(-1, 0, 0, 0), -1);
    }

    private static void edges() {
        RawPictures x = with(6, 4, 0, "b:0;f:0");
        x.scene(1, 16, 0);
        // lights rise by 256 each column, but at the rims those beside are the same ones mirrored
        due("all of 0", x.edges(2, 0), 24);
        due("inner columns of some", x.edges(2, 1), 16);
        due("none of 8190", x.edges(2, 8190), 0);
        due("ahead of f", x.edges(1, 0), -3);
        due("8191 first", x.edges(1, 8191), -1);
        due("-1", x.edges(2, -1), -1);
        due("stage 3", x.edges(3, 0), -1);
        due("stage -1", x.edges(-1, 0), -1);
    }

    private static void error() {
        RawPictures x = with(4, 4, 0, "b:1;f:0;g:16,16,99");
        due("no truth", x.error(2, 0, 0), -4);
        feedBytes(x, 100, 200, 50, 0, 0, 0);
        x.truth(0);
        due("16 off everywhere", x.error(2, 0, 0), 256);
        due("some are left by stage 2, none of the RAW", x.left(2, 0, 0, 0), 1584);
        due("the greatest", x.error(2, 1, 1), 16);
        due("squares", x.error(2, 2, 2), 4096);
        due("3 * TOP and so on is a long", x.error(3, 2, 2), 16L * (4095 - 800) * (4095 - 800));
        due("ahead of f", x.error(1, 0, 0), -3);
        due("colour 3 first", x.error(1, 3, 0), -1);
        due("what 3", x.error(2, 0, 3), -1);
        due("what -1", x.error(2, 0, -1), -1);
        due("stage 4", x.error(4, 0, 0), -1);
        due("stage -1", x.error(-1, 0, 0), -1);
        x.scene(0, 0, 0);
        due("ahead of f comes before no truth", x.error(0, 0, 0), -3);
        x.raw(16, 16, 0);
        tell(x, "f:0;g:99,99,99");
        feedBytes(x, 42, 42, 42, 0, 0, 0);
        x.truth(0);
        due("beyond an int", x.error(2, 0, 2), 256L * (42 * 99 > 4095 ? 4095 - 672 : 0) * (4095 - 672));
    }

    private static void falseOnes() {
        RawPictures x = with(4, 4, 0, "b:0;f:0");
        feedBytes(x, 100, 110, 105, 0, 0, 0);
        x.truth(0);
        due("159", x.falseOnes(2, 159), 16);
        due("by more than 160", x.falseOnes(2, 160), 0);
        due("0", x.falseOnes(2, 0), 16);
        due("4095", x.falseOnes(2, 4095), 0);
        due("ahead of f", x.falseOnes(1, 0), -3);
        due("4096 first", x.falseOnes(1, 4096), -1);
        due("-1", x.falseOnes(2, -1), -1);
        due("stage 3", x.falseOnes(3, 0), -1);
        due("stage -1", x.falseOnes(-1, 0), -1);
    }

    private static void places() {
        RawPictures x = with(6, 6, 0, "b:0;f:0");
        x.pixel(2, 3, 200);
        x.pixel(3, 2, 200);
        x.pixel(1, 0, 200);
        due("greens that meet only aslant: each by itself", x.places(2, 1, 3200, 0), 3);
        due("of one square", x.places(2, 1, 3200, 1), 1);
        due("the first of like ones", x.places(2, 1, 3200, 2), 1);
        due("half as high, these two have a square between them", x.places(2, 1, 1600, 0), 2);
        due("and are largest, with both between them", x.places(2, 1, 1600, 1), 4);
        due("with the red one first", x.places(2, 1, 1600, 2), 34);
        x.pixel(5, 4, 200);
        x.pixel(4, 5, 200);
        due("in the corner green is as high", x.places(2, 1, 3200, 1), 3);
        due("with its first square", x.places(2, 1, 3200, 2), 69);
        due("nothing is that high", x.places(2, 1, 3201, 0), 0);
        due("none is largest", x.places(2, 1, 3201, 1), 0);
        due("no first one", x.places(2, 1, 3201, 2), -2);
        due("all from 0 on", x.places(2, 1, 0, 1), 36);
        due("ahead of f", x.places(1, 0, 0, 0), -3);
        due("level 4096 first", x.places(1, 0, 4096, 0), -1);
        due("level -1", x.places(2, 0, -1, 0), -1);
        due("what 3", x.places(2, 0, 0, 3), -1);
        due("what -1", x.places(2, 0, 0, -1), -1);
        due("colour 3", x.places(2, 3, 0, 0), -1);
        due("stage 3", x.places(3, 0, 0, 0), -1);
        due("stage -1", x.places(-1, 0, 0, 0), -1);
    }

    private static void unlike() {
        RawPictures x = with(4, 4, 0, "b:5;f:0;g:32,16,16");
        x.scene(0, 10, 0);
        x.pixel(0, 0, 3);
        due("ahead: each square once", x.unlike(0, 1, 0), 16);
        due("the greatest difference", x.unlike(1, 0, 1), 80);
        due("with itself", x.unlike(2, 2, 0), 0);
        due("behind: three levels, red alone", x.unlike(2, 3, 0), x.levels(2, 0, 10) - x.levels(2, 0, 5));
        due("one ahead alone", x.unlike(1, 2, 0), -3);
        due("the other way", x.unlike(3, 0, 0), -3);
        due("what 2 first", x.unlike(1, 2, 2), -1);
        due("what -1", x.unlike(0, 0, -1), -1);
        due("stage 4", x.unlike(4, 0, 0), -1);
        due("stage -1", x.unlike(0, -1, 0), -1);
    }

    private static void without() {
        RawPictures x = with(4, 4, 0, "b:5;f:0;g:32,16,16");
        x.scene(0, 10, 0);
        due("without b: all are unlike", x.without(1, 0), 48);
        due("red by 160", x.without(1, 1), 160);
        due("without the last one: red alone", x.without(3, 0), 16);
        due("by 80", x.without(3, 1), 80);
        due("f", x.without(2, 0), -3);
        due("what 2 first", x.without(2, 2), -1);
        due("what -1", x.without(1, -1), -1);
        due("stage 0", x.without(0, 0), -1);
        due("stage 4", x.without(4, 0), -1);
        due("the stages stay", x.left(3, 0, 0, 0), 160);
        tell(x, "b:5");
        due("nothing but the RAW", x.without(1, 0), 16);
        due("by 80, ahead of f", x.without(1, 1), 80);
    }

    private static void best() {
        RawPictures x = with(4, 4, 0, "b:3;f:0;m:3;v:1");
        feedBytes(x, 100, 110, 105, 0, 0, 0);
        x.truth(0);
        due("no noise: of like ones the least", x.best(1, 0), 0);
        due("false ones: m 0 to 8 are alike", x.best(3, 1), 0);
        due("errors: b 0 with m:3", x.best(1, 2), bestByHand(x));
        tell(x, "b:3;f:0;m:3;v:1");
        due("the stages stay", x.stage(1, 1), 3);
        due("what was left stays", x.left(1, 0, 0, 0), 1600 - 48);
        for (String another : new String[] {"o:1;f:0", "f:0", "f:0;v:1", "f:0;g:1,1,1", "f:0;p:1,1", "f:0;t:0>0,255>1"}) {
            int k = tell(x, another);
            due(another, x.best(another.startsWith("o") ? 1 : k, 0), -3);
        }
        for (String right : new String[] {"b:1;f:0", "d:1;f:0", "l:1;f:0"}) {
            tell(x, right);
            due(right, x.best(1, 0) >= 0 ? 1 : 0, 1);
        }
        for (String right : new String[] {"f:0;w:1", "f:0;h:1", "f:0;m:1", "f:0;y:1,1,1", "f:0;n:1,1", "f:0;s:1,1"}) {
            tell(x, right);
            due(right, x.best(2, 0) >= 0 ? 1 : 0, 1);
        }
        x.scene(2, 0, 255);
        tell(x, "f:0;n:0,0;m:16");
        due("the most noise taken off", x.best(2, 0), 8);
        due("no truth", x.best(2, 2), -4);
        due("what 3 first", x.best(1, 3), -1);
        due("what -1", x.best(2, -1), -1);
        due("stage 0", x.best(0, 0), -1);
        due("stage 4", x.best(4, 0), -1);
        tell(x, "b:1;o:1");
        due("no f", x.best(1, 0), -4);
        due("another stage comes before no f", x.best(2, 0), -3);
    }

    private static int bestByHand(RawPictures x) {
        long least = Long.MAX_VALUE;
        int best = -1;
        for (int n = 0; n <= 8; n++) {
            tell(x, "b:" + n + ";f:0;m:3;v:1");
            long sum = x.error(4, 0, 0) + x.error(4, 1, 0) + x.error(4, 2, 0);
            if (sum < least) {
                least = sum;
                best = n;
            }
        }
        return best;
    }

    private static void seed() {
        RawPictures x = new RawPictures();
        yes("0", x.seed(0));
        due("X, too", x.count(2), 0);
        x.scene(4, 0, 255);
        due("drawn from it: 13849 modulo 256", x.left(0, 0, 0, 0), 16 * (13849 % 256));
        yes("65535", x.seed(65535));
        no("65536", x.seed(65536));
        no("-1", x.seed(-1));
        due("X stays", x.count(2), 65535);
        x.scene(4, 0, 255);
        due("drawn from 65535", x.left(0, 0, 0, 0), 16 * (int) ((25173L * 65535 + 13849) % 65536 % 256));
    }

    private static void keepAndUndo() {
        RawPictures x = with(6, 8, 2, "b:1;f:0");
        x.scene(0, 50, 0);
        x.dead(1, 2, true);
        x.seed(77);
        due("keep", x.keep(), 2);
        due("left", x.left(2, 0, 0, 0), 784);
        feedBytes(x, 9, 9, 9);
        x.raw(4, 4, 0);
        x.stages(0);
        feedBytes(x, 9, 9, 9);
        x.seed(5);
        for (int i = 0; i < 2; i++) {
            yes("undo " + i, x.undo());
            due("W", x.rawIs(0), 6);
            due("H", x.rawIs(1), 8);
            due("PHASE", x.rawIs(2), 2);
            due("DEAD", x.rawIs(3), 1);
            due("VALUES", x.rawIs(4), 2400);
            due("STAGES", x.count(0), 2);
            due("f", x.count(3), 2);
            due("X", x.count(2), 77);
            due("left again", x.left(2, 0, 0, 0), 784);
            due("the tape is not kept", x.count(1), 20);
            x.pixel(0, 0, 3);
            x.dead(0, 0, true);
            x.scene(4, 1, 1);
        }
        x.stages(0);
        due("kept anew", x.keep(), 0);
        x.raw(16, 16, 1);
        yes("as kept last", x.undo());
        due("no stages", x.count(0), 0);
        due("W still", x.rawIs(0), 6);
    }

    private static void check() {
        RawPictures x = new RawPictures();
        due("too few", x.check(1), -2);
        feedBytes(x, 1, 2, 3, 4);
        x.row(0);
        feedBytes(x, 1, 2, 3, 4, 0);
        due("17", x.check(17), -2);
        due("-1", x.check(-1), -2);
        due("refused: the tape stays", x.count(1), 20);
        due("right", x.check(4), -1);
        due("the tape is empty", x.count(1), 0);
        feedBytes(x, 1, 2, 3, 4, 0);
        due("beyond W nothing is", x.check(5), 4);
        feedBytes(x, 1, 3, 2, 4);
        due("the first wrong one", x.check(4), 1);
        feedBytes(x, 1, 3, 2, 4);
        due("no further than n", x.check(1), -1);
        feedBytes(x, 9);
        due("0 is right", x.check(0), -1);
        due("0 empties the tape", x.count(1), 0);
        x.raw(16, 4, 0);
        x.feed(0, 0, 0, 1, 0);
        due("16", x.check(16), 15);
    }

    private static void count() {
        RawPictures x = with(4, 4, 0, "b:1;f:0;v:1");
        x.feed(0, 0, 0, 0, 0);
        x.seed(9);
        due("stages", x.count(0), 3);
        due("tape", x.count(1), 20);
        due("X", x.count(2), 9);
        due("f", x.count(3), 2);
        due("4", x.count(4), -1);
        due("-1", x.count(-1), -1);
    }
}
