import java.util.ArrayList;
import java.util.List;

/**
 * "A call that is refused (NONE, -2 to -9, false) changes nothing but the tape, where it is told. Of several reasons NONE
 * comes first." Each refused call is made on a new object, whose state is then told and held against that of a twin on
 * which it was not made.
 */
public final class RefusedTest extends Bench {
    private interface Call {
        long on(RawPictures x);
    }

    private record Refused(String name, long want, Call call) { }

    private static final List<Refused> ALL = new ArrayList<>();

    public static void main(String[] args) {
        inAFullState();
        inAnEmptyState();
        withAFullTape();
        answersChangeNothing();
        end("refused calls change nothing");
    }

    private static void refused(String name, long want, Call call) {
        ALL.add(new Refused(name, want, call));
    }

    private static void refusedAll(String name, long want, Call... calls) {
        for (int i = 0; i < calls.length; i++) {
            refused(name + " " + (i + 1), want, calls[i]);
        }
    }

    private static long bit(boolean answer) {
        return answer ? 1 : 0;
    }

    /** All that a state shows, in fewer calls than an object may be used for; the last ones change it. */
    private static List<Long> told(RawPictures x) {
        List<Long> told = new ArrayList<>();
        tellRaw(x, told);
        int stages = x.count(0);
        for (int k = 1; k <= stages; k++) {
            for (int what = 0; what <= 4; what++) {
                told.add((long) x.stage(k, what));
            }
            for (int colour = 0; colour < 3; colour++) {
                told.add((long) x.levels(k, colour, 2));
                told.add(x.error(k, colour, 0));
            }
        }
        // the row tells the tape's first bytes; how many it has was told above
        told.add(bit(x.row(0)));
        tellRaw(x, told);
        told.add(bit(x.undo()));
        tellRaw(x, told);
        return told;
    }

    private static void tellRaw(RawPictures x, List<Long> told) {
        for (int what = 0; what <= 7; what++) {
            told.add((long) x.rawIs(what));
        }
        for (int what = 0; what <= 3; what++) {
            told.add((long) x.count(what));
        }
        int w = x.rawIs(0);
        int h = x.rawIs(1);
        for (int i = 0; i < w * h; i++) {
            told.add((long) x.left(0, i % w, i / w, 1));
        }
        for (int colour = 0; colour < 3; colour++) {
            told.add((long) x.levels(0, colour, 2));
            told.add((long) x.bits(0, colour));
        }
        told.add((long) x.found(2, 1));
        told.add((long) x.found(2, 3));
    }

    private static RawPictures made(int state) {
        RawPictures x = new RawPictures();
        if (state == 1) {
            x.raw(4, 4, 0);
            x.scene(4, 3, 90);
            x.dead(1, 2, true);
            tell(x, "f:0;m:3");
            x.keep();
            x.raw(6, 4, 1);
            tell(x, "b:1;d:2;o:1;l:3;f:1;v:1;w:9;p:1,2;y:1,2,3;n:1,1");
            feedBytes(x, 10, 200, 30, 40, 50, 160);
            x.truth(1);
            x.seed(777);
            x.feed(0x01020304, 0x05060708, 0x090a0b0c, 0x0d0e0f10, 0x11121314);
        } else if (state == 2) {
            x.raw(4, 6, 3);
            x.scene(1, 30, 7);
            x.dead(2, 5, true);
            tell(x, "b:1;d:1;o:2;l:4");
        } else {
            x.scene(2, 9, 200);
            tell(x, "b:0;d:3;f:0;s:9,9");
            for (int i = 1; i <= 7; i++) {
                x.feed(i, 2 * i, 3, 4, 5);
            }
        }
        return x;
    }

    private static void holdAgainst(int state) {
        List<Long> untouched = told(made(state));
        for (Refused r : ALL) {
            RawPictures x = made(state);
            says("state " + state + ", refused");
            due(r.name(), r.call().on(x), r.want());
            due(r.name() + " changes something", told(x).equals(untouched) ? 0 : 1, 0);
        }
        ALL.clear();
    }

    /** Ten stages with f:1 at 5, a TRUTH, twenty bytes on the tape, something KEPT; 6 by 4. */
    private static void inAFullState() {
        refusedAll("stages", -1, x -> x.stages(-1), x -> x.stages(21), x -> x.stages(120), x -> x.stages(121),
            x -> x.stages(LOW), x -> x.stages(HIGH));
        refusedAll("raw", 0, x -> bit(x.raw(2, 4, 0)), x -> bit(x.raw(4, 18, 0)), x -> bit(x.raw(5, 4, 0)),
            x -> bit(x.raw(4, 7, 0)), x -> bit(x.raw(4, 4, 4)), x -> bit(x.raw(4, 4, -1)), x -> bit(x.raw(LOW, HIGH, LOW)));
        refusedAll("row", 0, x -> bit(x.row(-1)), x -> bit(x.row(4)), x -> bit(x.row(LOW)), x -> bit(x.row(HIGH)));
        refusedAll("pixel", 0, x -> bit(x.pixel(6, 0, 1)), x -> bit(x.pixel(0, 4, 1)), x -> bit(x.pixel(-1, 1, 1)),
            x -> bit(x.pixel(1, -1, 1)), x -> bit(x.pixel(0, 0, 256)), x -> bit(x.pixel(0, 0, -1)));
        refusedAll("dead", -1, x -> x.dead(6, 0, true), x -> x.dead(0, 4, true), x -> x.dead(-1, 1, true),
            x -> x.dead(1, -1, true));
        refusedAll("scene", 0, x -> bit(x.scene(7, 1, 1)), x -> bit(x.scene(-1, 1, 1)), x -> bit(x.scene(4, 256, 1)),
            x -> bit(x.scene(4, -1, 1)), x -> bit(x.scene(4, 1, 256)), x -> bit(x.scene(0, 1, -1)));
        refusedAll("truth", 0, x -> bit(x.truth(6)), x -> bit(x.truth(-1)));
        refusedAll("seed", 0, x -> bit(x.seed(-1)), x -> bit(x.seed(65536)));
        refusedAll("check", -2, x -> x.check(-1), x -> x.check(17), x -> x.check(LOW), x -> x.check(HIGH));
        refusedAll("rawIs, colour, count", -1, x -> x.rawIs(8), x -> x.colour(6, 0), x -> x.count(4));
        refusedAll("not so many NUMBERS", -2, x -> x.stage(1, 2), x -> x.stage(8, 3));
        refusedAll("stage: NONE comes first", -1, x -> x.stage(11, 3), x -> x.stage(0, 3), x -> x.stage(1, 5));
        refusedAll("another COLOUR ahead of f", -2, x -> x.left(0, 0, 0, 0), x -> x.left(4, 1, 0, 2));
        refusedAll("left: NONE comes first", -1, x -> x.left(0, 6, 0, 2), x -> x.left(4, 0, 4, 0), x -> x.left(0, 0, 0, 3));
        refusedAll("it is GREEN", -2, x -> x.way(0, 0));
        refusedAll("no d", -3, x -> x.found(1, 0), x -> x.groups(5, 0), x -> x.middle(10, 0, 0));
        refusedAll("no d, and NONE", -1, x -> x.found(1, 4), x -> x.groups(5, 2), x -> x.middle(10, 6, 0),
            x -> x.found(11, 0), x -> x.groups(0, 0), x -> x.middle(0, 0, 0));
        refusedAll("no o", -3, x -> x.dark(1, 0));
        refusedAll("no o, and NONE", -1, x -> x.dark(1, 4), x -> x.dark(0, 0));
        refusedAll("no w", -3, x -> x.white(6, 0));
        refusedAll("no w, and NONE", -1, x -> x.white(6, 3), x -> x.white(0, 0));
        refusedAll("no p", -3, x -> x.base(7, 0, 0));
        refusedAll("no p, and NONE", -1, x -> x.base(7, 6, 0), x -> x.base(0, 0, 0));
        refusedAll("no y", -3, x -> x.tone(8, 4, 0, 0));
        refusedAll("no y, and NONE", -1, x -> x.tone(8, 5, 0, 0), x -> x.tone(8, 0, 0, 4), x -> x.tone(0, 0, 0, 0));
        refusedAll("ahead of f", -3, x -> x.noise(4, 0, 0, 0), x -> x.edges(4, 0), x -> x.error(4, 0, 0),
            x -> x.falseOnes(4, 0), x -> x.places(4, 0, 0, 0), x -> x.unlike(4, 5, 0), x -> x.unlike(5, 0, 0));
        refusedAll("ahead of f, and NONE", -1, x -> x.noise(4, 3, 0, 0), x -> x.noise(4, 0, 5, 0), x -> x.noise(4, 0, 0, 3),
            x -> x.edges(4, 8191), x -> x.error(4, 3, 0), x -> x.error(4, 0, 3), x -> x.falseOnes(4, 4096),
            x -> x.places(4, 3, 0, 0), x -> x.places(4, 0, 4096, 0), x -> x.places(4, 0, 0, 3), x -> x.unlike(4, 5, 2),
            x -> x.unlike(4, 11, 0), x -> x.unlike(11, 4, 0));
        refusedAll("measures", -1, x -> x.levels(11, 0, 0), x -> x.levels(0, 3, 0), x -> x.levels(0, 0, 6),
            x -> x.percent(0, 0, 0), x -> x.percent(11, 0, 1), x -> x.bits(11, 0), x -> x.bits(0, 3), x -> x.ring(0, 0, 4, 0),
            x -> x.ring(0, 0, 0, 2), x -> x.ways(3));
        refusedAll("it is f", -3, x -> x.without(5, 0), x -> x.best(5, 0), x -> x.best(3, 0));
        refusedAll("it is f, and NONE", -1, x -> x.without(5, 2), x -> x.best(5, 3), x -> x.without(0, 0), x -> x.best(11, 0));
        holdAgainst(1);
    }

    /** Four stages without f, no TRUTH, nothing on the tape, nothing KEPT; 4 by 6. */
    private static void inAnEmptyState() {
        refusedAll("not so many bytes", -1, x -> x.stages(1), x -> x.stages(120));
        refusedAll("not so many bytes", 0, x -> bit(x.row(0)), x -> bit(x.truth(0)), x -> bit(x.truth(5)));
        refusedAll("not so many bytes", -2, x -> x.check(1), x -> x.check(16));
        refusedAll("nothing KEPT", 0, x -> bit(x.undo()));
        refusedAll("no f:1", -3, x -> x.way(0, 0), x -> x.ways(0));
        refusedAll("no f:1, and NONE", -1, x -> x.way(4, 0), x -> x.way(0, 6), x -> x.ways(3), x -> x.ways(-1));
        refusedAll("ahead of f", -3, x -> x.noise(0, 0, 4, 1), x -> x.edges(4, 0), x -> x.error(4, 0, 0),
            x -> x.falseOnes(1, 0), x -> x.places(2, 0, 0, 2));
        refusedAll("no f", -4, x -> x.best(1, 0), x -> x.best(2, 1), x -> x.best(4, 2));
        refusedAll("another STAGE", -3, x -> x.best(3, 0), x -> x.best(3, 2));
        refusedAll("no f, and NONE", -1, x -> x.best(1, 3), x -> x.best(3, -1), x -> x.best(0, 0), x -> x.best(5, 2));
        refusedAll("no such STAGE", -1, x -> x.without(5, 0), x -> x.unlike(0, 5, 0), x -> x.left(5, 0, 0, 0));
        holdAgainst(2);
    }

    /** 140 bytes on the tape. */
    private static void withAFullTape() {
        refusedAll("feed", -1, x -> x.feed(9, 9, 9, 9, 9), x -> x.feed(0, 0, 0, 0, 0), x -> x.feed(LOW, HIGH, -1, 1, 0));
        refusedAll("stages", -1, x -> x.stages(121), x -> x.stages(140));
        refusedAll("check", -2, x -> x.check(17), x -> x.check(140));
        refusedAll("no TRUTH", -4, x -> x.error(3, 0, 0), x -> x.best(4, 2));
        refusedAll("no TRUTH, and NONE", -1, x -> x.error(3, 3, 0), x -> x.best(4, 3));
        holdAgainst(3);
    }

    /** Calls that only ask leave all as it was, too. */
    private static void answersChangeNothing() {
        List<Long> untouched = told(made(1));
        List<Call> asked = List.of(x -> x.rawIs(4), x -> x.colour(1, 1), x -> x.stage(2, 1), x -> x.left(10, 1, 1, 1),
            x -> x.found(2, 0), x -> x.groups(2, 0), x -> x.dark(3, 0), x -> x.middle(2, 0, 0), x -> x.way(1, 0), x -> x.ways(0),
            x -> x.white(7, 0), x -> x.base(8, 0, 0), x -> x.tone(9, 4, 0, 0), x -> x.levels(10, 0, 3), x -> x.noise(10, 0, 4, 1),
            x -> x.percent(10, 0, 50), x -> x.bits(10, 0), x -> x.ring(10, 0, 0, 1), x -> x.edges(10, 5), x -> x.error(10, 0, 2),
            x -> x.falseOnes(10, 5), x -> x.places(10, 0, 5, 2), x -> x.unlike(5, 10, 0), x -> x.without(1, 0),
            x -> x.without(10, 0), x -> x.best(1, 0), x -> x.best(10, 2), x -> x.count(3));
        for (int i = 0; i < asked.size(); i++) {
            RawPictures x = made(1);
            says("state 1, asked");
            due("call " + i + " is answered", asked.get(i).on(x) >= 0 ? 1 : 0, 1);
            due("call " + i + " changes something", told(x).equals(untouched) ? 0 : 1, 0);
        }
    }
}
