import java.util.ArrayList;
import java.util.Arrays;
import java.util.List;

/**
 * Pictures of all shapes, without a second telling of the document: a picture laid on its side or turned round leaves the
 * same LEVELS elsewhere, what without() and best() tell is what stages told anew leave, and nothing is left behind by a
 * larger RAW.
 */
public final class SymmetryTest extends Bench {
    private static final String LONG = "d:20;l:30;f:1;v:1;w:60;m:20;h:150;t:0>9,60>90,255>240;n:2,9;s:9,20;p:1,9;y:9,20,5";
    private static final String TURNED = "b:3;d:9;d:40;l:7;f:1;v:2;g:17,16,19;m:30;n:1,20;s:30,60;h:90;w:200";
    private static final String PLAIN = "l:9;f:0;s:60,99;v:1";
    private static final int[][] SHAPES = {{16, 4}, {4, 16}, {10, 6}, {6, 8}, {8, 8}, {4, 4}, {14, 4}};
    private static int chance = 1;

    private record Picture(int w, int h, int phase, int[][] value, boolean[][] dead) {
        /** X for Y. */
        Picture onItsSide() {
            int[][] other = new int[w][h];
            boolean[][] otherDead = new boolean[w][h];
            for (int y = 0; y < h; y++) {
                for (int x = 0; x < w; x++) {
                    other[x][y] = value[y][x];
                    otherDead[x][y] = dead[y][x];
                }
            }
            return new Picture(h, w, phase % 2 * 2 + phase / 2, other, otherDead);
        }

        /** East for west; since W is even, odd becomes even. */
        Picture turned() {
            int[][] other = new int[h][w];
            boolean[][] otherDead = new boolean[h][w];
            for (int y = 0; y < h; y++) {
                for (int x = 0; x < w; x++) {
                    other[y][w - 1 - x] = value[y][x];
                    otherDead[y][w - 1 - x] = dead[y][x];
                }
            }
            return new Picture(w, h, phase ^ 1, other, otherDead);
        }
    }

    public static void main(String[] args) {
        for (int[] shape : SHAPES) {
            for (int phase = 0; phase < 4; phase++) {
                Picture picture = drawn(shape[0], shape[1], phase);
                for (String text : new String[] {LONG, TURNED, PLAIN}) {
                    says(shape[0] + " by " + shape[1] + ", PHASE " + phase + ", on its side, " + text);
                    sameLevels(picture, picture.onItsSide(), text, true);
                    sameMeasures(picture, picture.onItsSide(), text, true);
                }
                says(shape[0] + " by " + shape[1] + ", PHASE " + phase + ", turned");
                sameLevels(picture, picture.turned(), TURNED, false);
                sameMeasures(picture, picture.turned(), TURNED, false);
                sameLevels(picture, picture.turned(), PLAIN, false);
                sameMeasures(picture, picture.turned(), PLAIN, false);
            }
        }
        truthsOnTheirSide();
        withoutAsTold();
        bestAsTold();
        nothingOfALargerRaw();
        end("pictures of all shapes are alike");
    }

    private static int draw(int below) {
        chance = (chance * 1103515245 + 12345) & 0x7fffffff;
        return (chance >>> 8) % below;
    }

    private static Picture drawn(int w, int h, int phase) {
        Picture p = new Picture(w, h, phase, new int[h][w], new boolean[h][w]);
        for (int y = 0; y < h; y++) {
            for (int x = 0; x < w; x++) {
                p.value()[y][x] = draw(4) == 0 ? 200 + draw(56) : draw(3) == 0 ? draw(256) : 60 + draw(40);
            }
        }
        for (int i = 0; i < 5; i++) {
            p.dead()[draw(h)][draw(w)] = true;
        }
        return p;
    }

    private static void lay(RawPictures x, Picture p) {
        x.raw(p.w(), p.h(), p.phase());
        rows(x, p.value());
        for (int y = 0; y < p.h(); y++) {
            for (int column = 0; column < p.w(); column++) {
                if (p.dead()[y][column]) {
                    x.dead(column, y, true);
                }
            }
        }
    }

    private static RawPictures laid(Picture p, String text) {
        RawPictures x = new RawPictures();
        due("stages", tell(x, text) > 0 ? 1 : 0, 1);
        lay(x, p);
        return x;
    }

    private static void sameLevels(Picture one, Picture other, String text, boolean isOnItsSide) {
        int stages = text.split(";").length;
        for (int k = 0; k <= stages; k++) {
            RawPictures x = laid(one, text);
            RawPictures z = laid(other, text);
            for (int y = 0; y < one.h(); y++) {
                for (int column = 0; column < one.w(); column++) {
                    int otherX = isOnItsSide ? y : one.w() - 1 - column;
                    int otherY = isOnItsSide ? column : y;
                    for (int colour = 0; colour < 3; colour++) {
                        due("stage " + k + " at " + column + ", " + y + " colour " + colour, x.left(k, column, y, colour),
                            z.left(k, otherX, otherY, colour));
                    }
                }
            }
        }
    }

    private static void sameMeasures(Picture one, Picture other, String text, boolean isOnItsSide) {
        String[] stages = text.split(";");
        for (int k = 0; k <= stages.length; k++) {
            RawPictures x = laid(one, text);
            RawPictures z = laid(other, text);
            due("measures of stage " + k, measures(x, k).equals(measures(z, k)) ? 1 : 0, 1);
            if (k > 0) {
                due("stage " + k, ofStage(x, k).equals(ofStage(z, k)) ? 1 : 0, 1);
            }
            for (int what = 0; what <= 2; what++) {
                due("ways", x.ways(what), z.ways(isOnItsSide && what < 2 ? 1 - what : what));
            }
        }
    }

    /** What is the same wherever the SQUARES lie. */
    private static List<Long> measures(RawPictures x, int k) {
        List<Long> all = new ArrayList<>();
        for (int colour = 0; colour < 3; colour++) {
            for (int what = 0; what <= 25; what++) {
                all.add((long) x.levels(k, colour, what));
            }
            for (int p = 1; p <= 100; p += 11) {
                all.add((long) x.percent(k, colour, p));
            }
            for (int i = 0; i < 4; i++) {
                all.add((long) x.ring(k, colour, i, 0));
                all.add((long) x.ring(k, colour, i, 1));
            }
            for (int b = 0; b <= 4; b++) {
                for (int what = 0; what <= 2; what++) {
                    all.add((long) x.noise(k, colour, b, what));
                }
            }
            for (int level = 0; level < 4096; level += 455) {
                all.add((long) x.places(k, colour, level, 0));
                all.add((long) x.places(k, colour, level, 1));
            }
        }
        for (int much = 0; much <= 4095; much += 315) {
            all.add((long) x.edges(k, 2 * much));
            all.add((long) x.falseOnes(k, much));
        }
        return all;
    }

    private static List<Long> ofStage(RawPictures x, int k) {
        List<Long> all = new ArrayList<>();
        for (int what = 0; what <= 2; what++) {
            all.add((long) x.white(k, what));
            all.add((long) (what < 2 ? x.found(k, what) : 0));
            all.add((long) x.groups(k, what));
            all.add((long) x.without(k, what));
            all.add((long) x.best(k, what));
            all.add((long) x.unlike(k, k - 1, what));
        }
        return all;
    }

    private static void truthsOnTheirSide() {
        int[] sideways = {0, 3, 2, 1, 4};
        for (int[] shape : SHAPES) {
            for (int kind = 0; kind < sideways.length; kind++) {
                says(shape[0] + " by " + shape[1] + ", TRUTH of kind " + kind);
                RawPictures x = with(shape[0], shape[1], 1, "b:1;f:1;n:2,2;s:9,9");
                RawPictures z = with(shape[1], shape[0], 2, "b:1;f:1;n:2,2;s:9,9");
                feedBytes(x, 10, 200, 30, 240, 50, 160);
                x.truth(kind);
                feedBytes(z, 10, 200, 30, 240, 50, 160);
                z.truth(sideways[kind]);
                for (int k = 2; k <= 4; k++) {
                    for (int i = 0; i < 9; i++) {
                        due("error of stage " + k + ", " + i, x.error(k, i / 3, i % 3), z.error(k, i / 3, i % 3));
                    }
                }
                due("the best b", x.best(1, 2), z.best(1, 2));
                due("the best n", x.best(3, 2), z.best(3, 2));
            }
        }
    }

    /** The LEVELS that the last STAGE leaves. */
    private static int[] last(RawPictures x) {
        int w = x.rawIs(0);
        int h = x.rawIs(1);
        int k = x.count(0);
        int[] all = new int[3 * w * h];
        for (int i = 0; i < all.length; i++) {
            all[i] = x.left(k, i % w, i / w % h, i / w / h);
        }
        return all;
    }

    private static String joined(List<String> stages) {
        return String.join(";", stages);
    }

    private static void withoutAsTold() {
        for (String text : new String[] {LONG, TURNED, PLAIN, "b:9;o:2;d:3;b:1", "b:200;d:9;l:60;o:3"}) {
            Picture picture = drawn(8, 6, draw(4));
            List<String> stages = Arrays.asList(text.split(";"));
            int[] whole = last(laid(picture, text));
            for (int k = 1; k <= stages.size(); k++) {
                says("33: as told without STAGE " + k + ": " + text);
                RawPictures x = laid(picture, text);
                if (stages.get(k - 1).startsWith("f")) {
                    due("f", x.without(k, 0), -3);
                    continue;
                }
                List<String> rest = new ArrayList<>(stages);
                rest.remove(k - 1);
                int[] others = last(laid(picture, joined(rest)));
                int unlike = 0;
                int greatest = 0;
                for (int i = 0; i < whole.length; i++) {
                    unlike += whole[i] != others[i] ? 1 : 0;
                    greatest = Math.max(greatest, Math.abs(whole[i] - others[i]));
                }
                due("how many", x.without(k, 0), unlike);
                due("the greatest", x.without(k, 1), greatest);
                due("the stages stay", Arrays.equals(last(x), whole) ? 1 : 0, 1);
            }
        }
    }

    private static long badness(RawPictures x, int what) {
        int k = x.count(0);
        long much = what == 1 ? x.falseOnes(k, 256) : 0;
        for (int colour = 0; colour < 3; colour++) {
            much += what == 0 ? x.noise(k, colour, 4, 1) : what == 2 ? x.error(k, colour, 0) : 0;
        }
        return much;
    }

    private static RawPictures truthful(int kind, String text) {
        RawPictures x = with(8, 6, 3, text);
        feedBytes(x, 60, 80, 50, 150, 70, 240);
        x.truth(kind);
        return x;
    }

    private static void bestAsTold() {
        String told = "b:3;d:2;l:9;f:1;w:20;h:90;m:15;y:3,20,9;n:5,1;s:4,60;g:17,16,18";
        String other = "b:1;d:4;l:2;f:0;s:9,9;n:1,2;m:20;w:200;y:16,9,9;h:8";
        for (String text : new String[] {told, other}) {
            List<String> stages = Arrays.asList(text.split(";"));
            for (int k = 1; k <= stages.size(); k++) {
                char letter = stages.get(k - 1).charAt(0);
                for (int i = 0; i < 9; i++) {
                    int what = i / 3;
                    int kind = i % 3 + 1;
                    says("34: as told with 0 to 8, STAGE " + k + ", what " + what + ": " + text);
                    int best = "bdlwhmyns".indexOf(letter) < 0 ? -3 : 0;
                    long least = Long.MAX_VALUE;
                    for (int n = 0; n <= 8 && best >= 0; n++) {
                        List<String> tried = new ArrayList<>(stages);
                        tried.set(k - 1, stages.get(k - 1).replaceFirst("[0-9]+", Integer.toString(n)));
                        long much = badness(truthful(kind, joined(tried)), what);
                        best = much < least ? n : best;
                        least = Math.min(much, least);
                    }
                    due("best", truthful(kind, text).best(k, what), best);
                }
            }
        }
    }

    /** Uses all of the rows of a larger RAW first. */
    private static RawPictures afterALargerOne(String text) {
        RawPictures x = new RawPictures();
        tell(x, text);
        x.raw(16, 16, 2);
        x.scene(0, 255, 0);
        for (int i = 0; i < 16; i++) {
            x.dead(i, 15 - i, true);
            x.dead(i, i, true);
        }
        int stages = x.count(0);
        for (int k = 1; k <= stages; k++) {
            ofStage(x, k);
        }
        x.left(stages, 15, 15, 1);
        x.tone(stages, 4, 15, 15);
        x.base(stages - 1, 15, 15);
        x.places(stages, 1, 9, 2);
        return x;
    }

    private static void nothingOfALargerRaw() {
        says("a RAW of 4 by 4 behind 16 by 16");
        RawPictures none = afterALargerOne(LONG);
        none.raw(4, 4, 0);
        due("none is FOUND", none.found(1, 0), 0);
        due("no first", none.found(1, 2), -2);
        due("no last", none.found(1, 3), -2);
        due("no group", none.groups(1, 0), 0);
        due("no place", none.places(12, 1, 4095, 2), -2);
        for (int[] shape : SHAPES) {
            for (String text : new String[] {LONG, TURNED}) {
                Picture picture = drawn(shape[0], shape[1], draw(4));
                int stages = text.split(";").length;
                for (int k = 0; k <= stages; k++) {
                    says(shape[0] + " by " + shape[1] + " behind 16 by 16, STAGE " + k + ": " + text);
                    RawPictures x = afterALargerOne(text);
                    lay(x, picture);
                    due("levels together", x.levels(k, 1, 2), laid(picture, text).levels(k, 1, 2));
                    due("bits", x.bits(k, 2), laid(picture, text).bits(k, 2));
                    if (k > 0) {
                        due("of the stage", ofStage(x, k).equals(ofStage(laid(picture, text), k)) ? 1 : 0, 1);
                        due("found first", x.found(k, 2), laid(picture, text).found(k, 2));
                        due("found last", x.found(k, 3), laid(picture, text).found(k, 3));
                        int[][] corners = {{0, 0}, {shape[0] - 1, 0}, {0, shape[1] - 1}, {shape[0] - 1, shape[1] - 1}};
                        RawPictures fresh = laid(picture, text);
                        for (int[] c : corners) {
                            due("base", x.base(k, c[0], c[1]), fresh.base(k, c[0], c[1]));
                            due("tone", x.tone(k, 4, c[0], c[1]), fresh.tone(k, 4, c[0], c[1]));
                            due("middle", x.middle(k, c[0], c[1]), fresh.middle(k, c[0], c[1]));
                        }
                    }
                    due("places", x.places(k, 0, 900, 2), laid(picture, text).places(k, 0, 900, 2));
                    if (k == stages) {
                        RawPictures another = afterALargerOne(text);
                        lay(another, picture);
                        due("all that is left", Arrays.equals(last(another), last(laid(picture, text))) ? 1 : 0, 1);
                    }
                }
            }
        }
    }
}
