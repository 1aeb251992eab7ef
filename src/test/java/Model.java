import java.util.ArrayDeque;
import java.util.ArrayList;
import java.util.Arrays;
import java.util.Collections;
import java.util.List;
import java.util.TreeSet;

/**
 * A second, slow and plain telling of the document, with the same face as RawPictures: it makes everything anew
 * for each call, so that a slip in the class (a kept sheet that is stale, a wrong rim) shows as a difference.
 */
final class Model {
    record Stage(char letter, List<Integer> numbers) { }

    static final int TOP = 4095;
    List<Integer> tape = new ArrayList<>();
    int w = 4, h = 4, phase = 0, chance = 1;
    int[][] value = new int[16][16];
    boolean[][] isDead = new boolean[16][16];
    int[][][] truth = null;
    List<Stage> stages = new ArrayList<>();
    Model kept = null;

    // ---- the calls that change something

    public int feed(int a, int b, int c, int d, int e) {
        if (tape.size() + 20 > 140) return -1;
        for (int n : new int[] {a, b, c, d, e})
            for (int s = 24; s >= 0; s -= 8) tape.add((n >> s) & 255);
        return tape.size();
    }

    public int stages(int n) {
        if (n < 0 || n > 120 || n > tape.size()) return -1;
        int[] text = tape.subList(0, n).stream().mapToInt(i -> i).toArray();
        tape.clear();
        List<Stage> read = new ArrayList<>();
        int fault = n == 0 ? 0 : parse(text, read);
        if (fault != 0) return fault;
        stages = read;
        return stages.size();
    }

    /** Sign by sign, the end as sign -1. */
    static int parse(int[] text, List<Stage> read) {
        String expected = "letter";
        int digits = 0, number = 0, start = 0;
        boolean f = false;
        for (int place = 0; place <= text.length; place++) {
            int sign = place < text.length ? text[place] : -1;
            boolean digit = sign >= 48 && sign <= 57;
            if (expected.equals("letter")) {
                if (sign < 0 || "bdolfvwhygmpnst".indexOf(sign) < 0) return -1000 - place;
                if (read.size() == 12) return -4000 - place;
                if ("bdolf".indexOf(sign) >= 0 ? f : !f) return -6000 - place;
                if (sign == 'f') f = true;
                read.add(new Stage((char) sign, new ArrayList<>()));
                expected = ":";
            } else if (expected.equals(":")) {
                if (sign != ':') return -1000 - place;
                expected = "first digit";
            } else if (expected.equals("first digit")) {
                if (!digit) return -1000 - place;
                start = place;
                digits = 1;
                number = sign - 48;
                expected = "more";
            } else if (digit) {
                if (digits == 3) return -2000 - place;
                digits++;
                number = 10 * number + sign - 48;
            } else {
                Stage s = read.get(read.size() - 1);
                if (!allowed(s, number)) return -3000 - start;
                s.numbers.add(number);
                int next = follows(s);
                if (next == ';' ? sign != ';' && sign != -1 : sign != next) return -1000 - place;
                expected = sign == ';' ? "letter" : "first digit";
            }
        }
        return 0;
    }

    static boolean allowed(Stage s, int n) {
        int i = s.numbers.size();
        switch (s.letter) {
            case 'b': case 'd': case 'w': return n <= 255;
            case 'o': return n >= 1 && n <= 4;
            case 'l': case 'g': case 'm': case 'n': case 's': return n <= 99;
            case 'f': return n <= 1;
            case 'v': return n >= 1 && n <= 3;
            case 'h': return n <= 254;
            case 'y': return n <= 32;
            case 'p': return i == 0 ? n >= 1 && n <= 4 : n <= 32;
            default:
                if (n > 255) return false;
                if (i == 0) return n == 0;
                return i % 2 == 1 || n > s.numbers.get(i - 2);
        }
    }

    static int follows(Stage s) {
        int i = s.numbers.size();
        if (s.letter == 't') {
            if (i % 2 == 1) return '>';
            return s.numbers.get(i - 2) == 255 ? ';' : ',';
        }
        int need = "yg".indexOf(s.letter) >= 0 ? 3 : "pns".indexOf(s.letter) >= 0 ? 2 : 1;
        return i < need ? ',' : ';';
    }

    public boolean raw(int w, int h, int phase) {
        if (w < 4 || w > 16 || w % 2 != 0 || h < 4 || h > 16 || h % 2 != 0 || phase < 0 || phase > 3) return false;
        this.w = w;
        this.h = h;
        this.phase = phase;
        value = new int[16][16];
        isDead = new boolean[16][16];
        truth = null;
        return true;
    }

    public boolean row(int y) {
        if (y < 0 || y >= h || tape.size() < w) return false;
        for (int x = 0; x < w; x++) value[y][x] = tape.get(x);
        tape.clear();
        truth = null;
        return true;
    }

    boolean in(int x, int y) { return x >= 0 && y >= 0 && x < w && y < h; }

    public boolean pixel(int x, int y, int v) {
        if (!in(x, y) || v < 0 || v > 255) return false;
        value[y][x] = v;
        truth = null;
        return true;
    }

    public int dead(int x, int y, boolean is) {
        if (!in(x, y)) return -1;
        isDead[y][x] = is;
        truth = null;
        return rawIs(3);
    }

    public boolean scene(int kind, int a, int b) {
        if (kind < 0 || kind > 6 || a < 0 || a > 255 || b < 0 || b > 255) return false;
        for (int y = 0; y < h; y++)
            for (int x = 0; x < w; x++) {
                int v = a;
                if (kind == 1) v = (a * x + b * y) % 256;
                if (kind == 2 && 2 * x >= w) v = b;
                if (kind == 3 && 2 * (x + y) >= w + h) v = b;
                if (kind == 4) {
                    chance = (int) ((25173L * chance + 13849) % 65536);
                    v = (a + chance % (b + 1)) % 256;
                }
                if (kind == 5 && colour(x, y) == 0) v = b;
                if (kind == 6 && x % 2 == 1) v = b;
                value[y][x] = v;
            }
        isDead = new boolean[16][16];
        truth = null;
        return true;
    }

    public boolean truth(int kind) {
        if (kind < 0 || kind > 5 || tape.size() < 6) return false;
        truth = new int[3][16][16];
        for (int y = 0; y < h; y++)
            for (int x = 0; x < w; x++)
                for (int c = 0; c < 3; c++) {
                    int one = tape.get(c), two = tape.get(c + 3);
                    boolean first = true;
                    if (kind == 1) first = 2 * x < w;
                    if (kind == 2) first = 2 * (x + y) < w + h;
                    if (kind == 3) first = 2 * y < h;
                    if (kind == 4) first = ((x >> 1) + (y >> 1)) % 2 == 0;
                    truth[c][y][x] = first ? one : two;
                    if (kind == 5) truth[c][y][x] = one + ((two - one) * x) / (w - 1);
                    if (colour(x, y) == c) value[y][x] = truth[c][y][x];
                }
        isDead = new boolean[16][16];
        tape.clear();
        return true;
    }

    public boolean seed(int x) {
        if (x < 0 || x > 65535) return false;
        chance = x;
        return true;
    }

    Model copy() {
        Model m = new Model();
        m.w = w;
        m.h = h;
        m.phase = phase;
        m.chance = chance;
        m.stages = stages;
        for (int y = 0; y < 16; y++) {
            m.value[y] = value[y].clone();
            m.isDead[y] = isDead[y].clone();
        }
        return m;
    }

    public int keep() {
        kept = copy();
        return stages.size();
    }

    public boolean undo() {
        if (kept == null) return false;
        Model m = kept.copy();
        w = m.w;
        h = m.h;
        phase = m.phase;
        chance = m.chance;
        stages = m.stages;
        value = m.value;
        isDead = m.isDead;
        truth = null;
        return true;
    }

    public int check(int n) {
        if (n < 0 || n > 16 || n > tape.size()) return -2;
        List<Integer> bytes = new ArrayList<>(tape.subList(0, n));
        tape.clear();
        for (int x = 0; x < n; x++) if (x >= w || value[0][x] != bytes.get(x)) return x;
        return -1;
    }

    // ---- what stages leave; [colour][y][x], ahead of f a square's other colours are -2

    int mx(int x) { return x < 0 ? -x : x >= w ? w - 2 - (x - w) : x; }
    int my(int y) { return y < 0 ? -y : y >= h ? h - 2 - (y - h) : y; }
    static int clip(int l) { return l < 0 ? 0 : l > TOP ? TOP : l; }

    int fAt() {
        for (int i = 0; i < stages.size(); i++) if (stages.get(i).letter == 'f') return i + 1;
        return 0;
    }

    boolean behind(int k) { return fAt() > 0 && k >= fAt(); }

    int[][] own(int[][][] l) {
        int[][] o = new int[h][w];
        for (int y = 0; y < h; y++) for (int x = 0; x < w; x++) o[y][x] = l[colour(x, y)][y][x];
        return o;
    }

    int[][][] spread(int[][] o) {
        int[][][] l = new int[3][h][w];
        for (int c = 0; c < 3; c++)
            for (int y = 0; y < h; y++) for (int x = 0; x < w; x++) l[c][y][x] = colour(x, y) == c ? o[y][x] : -2;
        return l;
    }

    int[][][] leave(int k) { return leave(stages.subList(0, k)); }

    int[][][] leave(List<Stage> some) {
        int[][] o = new int[h][w];
        for (int y = 0; y < h; y++) for (int x = 0; x < w; x++) o[y][x] = 16 * value[y][x];
        int[][][] l = spread(o);
        for (Stage s : some) l = apply(s, l);
        return l;
    }

    int[][][] apply(Stage s, int[][][] l) {
        int n = s.numbers.get(0);
        if ("bodl".indexOf(s.letter) >= 0) return spread(applyEarly(s.letter, n, own(l)));
        if (s.letter == 'f') return fill(own(l), n);
        int[][][] r = new int[3][h][w];
        if (s.letter == 'v') {
            for (int i = 0; i < n; i++) l = vote(l);
            return l;
        }
        int[] white = s.letter == 'w' ? whites(l, n) : null;
        for (int y = 0; y < h; y++)
            for (int x = 0; x < w; x++)
                for (int c = 0; c < 3; c++) r[c][y][x] = clip(late(s, l, c, x, y, white));
        return r;
    }

    int[][] applyEarly(char letter, int n, int[][] o) {
        int[][] r = new int[h][w];
        for (int y = 0; y < h; y++)
            for (int x = 0; x < w; x++) {
                int v = o[y][x];
                if (letter == 'b') v -= 16 * n;
                if (letter == 'o') v -= darkness(o, y, n);
                if (letter == 'd' && isFound(o, x, y, n)) v = mid(o, x, y);
                if (letter == 'l') v = v * (256 + (n * sq(x, y)) / 16) / 256;
                r[y][x] = clip(v);
            }
        return r;
    }

    int sq(int x, int y) {
        int dx = 2 * x + 1 - w, dy = 2 * y + 1 - h;
        return dx * dx + dy * dy;
    }

    int darkness(int[][] o, int y, int n) {
        int sum = 0;
        for (int x = 0; x < n; x++) sum += o[y][x];
        return sum / n;
    }

    int mid(int[][] o, int x, int y) {
        int[] four = {o[y][mx(x - 2)], o[y][mx(x + 2)], o[my(y - 2)][x], o[my(y + 2)][x]};
        Arrays.sort(four);
        return (four[1] + four[2]) / 2;
    }

    boolean isFound(int[][] o, int x, int y, int n) {
        return isDead[y][x] || Math.abs(o[y][x] - mid(o, x, y)) > 16 * n;
    }

    int wayAt(int[][] o, int x, int y) {
        int c = o[y][x];
        int across = Math.abs(o[y][mx(x - 1)] - o[y][mx(x + 1)]) + Math.abs(2 * c - (o[y][mx(x - 2)] + o[y][mx(x + 2)]));
        int down = Math.abs(o[my(y - 1)][x] - o[my(y + 1)][x]) + Math.abs(2 * c - (o[my(y - 2)][x] + o[my(y + 2)][x]));
        return across < down ? 0 : down < across ? 1 : 2;
    }

    int[][][] fill(int[][] o, int k) {
        int[][][] r = new int[3][h][w];
        for (int y = 0; y < h; y++)
            for (int x = 0; x < w; x++) {
                int a = o[y][mx(x - 1)] + o[y][mx(x + 1)], d = o[my(y - 1)][x] + o[my(y + 1)][x];
                int way = k == 0 ? 2 : wayAt(o, x, y);
                r[1][y][x] = colour(x, y) == 1 ? o[y][x] : way == 0 ? a / 2 : way == 1 ? d / 2 : (a + d) / 4;
            }
        for (int c = 0; c <= 2; c += 2)
            for (int y = 0; y < h; y++)
                for (int x = 0; x < w; x++) {
                    int sum = 0, many = 0;
                    // of the eight around it, just those whose own colour is c are the ones that the document names
                    for (int yy = y - 1; yy <= y + 1; yy++)
                        for (int xx = x - 1; xx <= x + 1; xx++)
                            if (colour(mx(xx), my(yy)) == c) {
                                sum += o[my(yy)][mx(xx)] - r[1][my(yy)][mx(xx)];
                                many++;
                            }
                    r[c][y][x] = colour(x, y) == c ? o[y][x] : clip(sum / many + r[1][y][x]);
                }
        return r;
    }

    int[][][] vote(int[][][] l) {
        int[][][] r = {new int[h][w], l[1], new int[h][w]};
        for (int c = 0; c <= 2; c += 2)
            for (int y = 0; y < h; y++)
                for (int x = 0; x < w; x++) {
                    List<Integer> nine = new ArrayList<>();
                    for (int j = -1; j <= 1; j++)
                        for (int i = -1; i <= 1; i++)
                            nine.add(l[c][my(y + j)][mx(x + i)] - l[1][my(y + j)][mx(x + i)]);
                    Collections.sort(nine);
                    r[c][y][x] = clip(l[1][y][x] + nine.get(4));
                }
        return r;
    }

    int[] whites(int[][][] l, int n) {
        long red = 0, green = 0, blue = 0;
        int many = 0;
        for (int y = 0; y < h; y++)
            for (int x = 0; x < w; x++) {
                int most = max(l, x, y), least = min(l, x, y);
                if (least < 64 || most > 4000 || most - least > 16 * n) continue;
                many++;
                red += l[0][y][x];
                green += l[1][y][x];
                blue += l[2][y][x];
            }
        if (many == 0) return new int[] {256, 256, 0};
        return new int[] {(int) Math.min(1024, Math.max(64, 256 * green / red)),
            (int) Math.min(1024, Math.max(64, 256 * green / blue)), many};
    }

    static int max(int[][][] l, int x, int y) { return Math.max(l[0][y][x], Math.max(l[1][y][x], l[2][y][x])); }
    static int min(int[][][] l, int x, int y) { return Math.min(l[0][y][x], Math.min(l[1][y][x], l[2][y][x])); }
    static int light(int[][][] l, int x, int y) { return (l[0][y][x] + l[2][y][x] + 2 * l[1][y][x]) / 4; }

    int late(Stage s, int[][][] l, int c, int x, int y, int[] white) {
        int n = s.numbers.get(0), v = l[c][y][x];
        switch (s.letter) {
            case 'w': return c == 1 ? v : v * white[c / 2] / 256;
            case 'g': return v * s.numbers.get(c) / 16;
            case 'm': return light(l, x, y) + ((v - light(l, x, y)) * n) / 16;
            case 'h':
                int p = max(l, x, y);
                return p > 16 * n ? v + ((p - v) * (p - 16 * n)) / (TOP - 16 * n) : v;
            case 't': return curve(s.numbers, v);
            case 'p':
                return v + ((mean(l, 0, 0, w, h) - baseAt(l, n, x, y)) * s.numbers.get(1)) / 16;
            case 'y': return v + (toneAt(s, l, x, y) - light(l, x, y));
            case 'n': {
                int blur = blur(l, c, x, y), limit = 16 * n + (s.numbers.get(1) * blur) / 64, detail = v - blur;
                if (Math.abs(detail) <= limit) return blur;
                return detail > 0 ? blur + detail - limit : blur + detail + limit;
            }
            default: {
                int m = 16 * s.numbers.get(1), more = ((v - blur(l, c, x, y)) * n) / 16;
                return v + (more > m ? m : more < -m ? -m : more);
            }
        }
    }

    static int curve(List<Integer> points, int v) {
        int i = points.size() - 4;
        while (16 * points.get(i) > v) i -= 2;
        int x = points.get(i), y = points.get(i + 1);
        return 16 * y + ((v - 16 * x) * (points.get(i + 3) - y)) / (points.get(i + 2) - x);
    }

    int mean(int[][][] l, int x0, int y0, int x1, int y1) {
        int sum = 0, many = 0;
        for (int y = y0; y < y1 && y < h; y++)
            for (int x = x0; x < x1 && x < w; x++) {
                sum += light(l, x, y);
                many++;
            }
        return sum / many;
    }

    int baseAt(int[][][] l, int k, int x, int y) {
        int side = 1 << k, x0 = x / side * side, y0 = y / side * side;
        return mean(l, x0, y0, x0 + side, y0 + side);
    }

    int floorAt(int[][][] l, int floor, int x, int y) {
        int[][] now = new int[h][w];
        for (int j = 0; j < h; j++) for (int i = 0; i < w; i++) now[j][i] = light(l, i, j);
        for (int f = 0; f < floor; f++) {
            int high = (now.length + 1) / 2, wide = (now[0].length + 1) / 2;
            int[][] sum = new int[high][wide], many = new int[high][wide];
            for (int j = 0; j < now.length; j++)
                for (int i = 0; i < now[0].length; i++) {
                    sum[j / 2][i / 2] += now[j][i];
                    many[j / 2][i / 2]++;
                }
            for (int j = 0; j < high; j++) for (int i = 0; i < wide; i++) sum[j][i] /= many[j][i];
            now = sum;
        }
        return now[y >> floor][x >> floor];
    }

    int toneAt(Stage s, int[][][] l, int x, int y) {
        int[] f = new int[4];
        for (int i = 0; i < 4; i++) f[i] = floorAt(l, i, x, y);
        int tone = f[3];
        for (int i = 0; i < 3; i++) tone += ((f[i] - f[i + 1]) * s.numbers.get(i)) / 16;
        return tone;
    }

    int blur(int[][][] l, int c, int x, int y) {
        int sum = 0;
        for (int j = -1; j <= 1; j++)
            for (int i = -1; i <= 1; i++) sum += l[c][my(y + j)][mx(x + i)] * (2 - Math.abs(i)) * (2 - Math.abs(j));
        return sum / 16;
    }

    // ---- the calls that ask

    boolean has(int k) { return k >= 1 && k <= stages.size(); }
    boolean leaves(int k) { return k >= 0 && k <= stages.size(); }
    static boolean is(int n, int last) { return n >= 0 && n <= last; }
    char letter(int k) { return stages.get(k - 1).letter; }
    int number(int k) { return stages.get(k - 1).numbers.get(0); }

    public int rawIs(int what) {
        if (!is(what, 7)) return -1;
        int[] a = {w, h, phase, 0, 0, 0, 0, 0};
        for (int y = 0; y < h; y++)
            for (int x = 0; x < w; x++) {
                if (isDead[y][x]) a[3]++;
                a[4] += value[y][x];
                a[5 + colour(x, y)]++;
            }
        return a[what];
    }

    public int colour(int x, int y) {
        if (!in(x, y)) return -1;
        int u = (x + phase) % 2, v = (y + phase / 2) % 2;
        return u == 0 && v == 0 ? 0 : u == 1 && v == 1 ? 2 : 1;
    }

    public int stage(int k, int what) {
        if (!has(k) || !is(what, 4)) return -1;
        Stage s = stages.get(k - 1);
        if (what == 0) return s.letter;
        if (what == 4) return s.numbers.size();
        return what > s.numbers.size() ? -2 : s.numbers.get(what - 1);
    }

    public int left(int k, int x, int y, int colour) {
        return !leaves(k) || !in(x, y) || !is(colour, 2) ? -1 : leave(k)[colour][y][x];
    }

    boolean[][] foundBy(int k) {
        boolean[][] f = new boolean[h][w];
        int[][] o = own(leave(k - 1));
        for (int y = 0; y < h; y++) for (int x = 0; x < w; x++) f[y][x] = isFound(o, x, y, number(k));
        return f;
    }

    public int found(int k, int what) {
        if (!has(k) || !is(what, 3)) return -1;
        if (letter(k) != 'd') return -3;
        boolean[][] f = foundBy(k);
        int many = 0, deads = 0, first = -2, last = -2;
        for (int y = 0; y < h; y++)
            for (int x = 0; x < w; x++)
                if (f[y][x]) {
                    many++;
                    if (isDead[y][x]) deads++;
                    if (first == -2) first = 16 * y + x;
                    last = 16 * y + x;
                }
        return new int[] {many, deads, first, last}[what];
    }

    /** How many, the largest one's size, its first square. */
    int[] clumps(boolean[][] in, boolean aslant) {
        boolean[][] done = new boolean[h][w];
        int[] r = {0, 0, -2};
        for (int y = 0; y < h; y++)
            for (int x = 0; x < w; x++) {
                if (!in[y][x] || done[y][x]) continue;
                ArrayDeque<int[]> todo = new ArrayDeque<>();
                todo.push(new int[] {x, y});
                done[y][x] = true;
                int size = 0;
                while (!todo.isEmpty()) {
                    int[] at = todo.pop();
                    size++;
                    for (int j = -1; j <= 1; j++)
                        for (int i = -1; i <= 1; i++) {
                            int xx = at[0] + i, yy = at[1] + j;
                            if ((!aslant && i * j != 0) || !in(xx, yy) || !in[yy][xx] || done[yy][xx]) continue;
                            done[yy][xx] = true;
                            todo.push(new int[] {xx, yy});
                        }
                }
                r[0]++;
                if (size > r[1]) {
                    r[1] = size;
                    r[2] = 16 * y + x;
                }
            }
        return r;
    }

    public int groups(int k, int what) {
        if (!has(k) || !is(what, 1)) return -1;
        return letter(k) != 'd' ? -3 : clumps(foundBy(k), true)[what];
    }

    public int dark(int k, int y) {
        if (!has(k) || !is(y, h - 1)) return -1;
        return letter(k) != 'o' ? -3 : darkness(own(leave(k - 1)), y, number(k));
    }

    public int middle(int k, int x, int y) {
        if (!has(k) || !in(x, y)) return -1;
        return letter(k) != 'd' ? -3 : mid(own(leave(k - 1)), x, y);
    }

    public int way(int x, int y) {
        if (!in(x, y)) return -1;
        if (colour(x, y) == 1) return -2;
        if (fAt() == 0 || number(fAt()) != 1) return -3;
        return wayAt(own(leave(fAt() - 1)), x, y);
    }

    public int ways(int what) {
        if (!is(what, 2)) return -1;
        if (fAt() == 0 || number(fAt()) != 1) return -3;
        int many = 0;
        for (int y = 0; y < h; y++) for (int x = 0; x < w; x++) if (way(x, y) == what) many++;
        return many;
    }

    public int white(int k, int what) {
        if (!has(k) || !is(what, 2)) return -1;
        return letter(k) != 'w' ? -3 : whites(leave(k - 1), number(k))[what];
    }

    public int base(int k, int x, int y) {
        if (!has(k) || !in(x, y)) return -1;
        return letter(k) != 'p' ? -3 : baseAt(leave(k - 1), number(k), x, y);
    }

    public int tone(int k, int floor, int x, int y) {
        if (!has(k) || !is(floor, 4) || !in(x, y)) return -1;
        if (letter(k) != 'y') return -3;
        int[][][] l = leave(k - 1);
        return floor == 4 ? toneAt(stages.get(k - 1), l, x, y) : floorAt(l, floor, x, y);
    }

    List<Integer> all(int k, int colour) {
        List<Integer> r = new ArrayList<>();
        int[][][] l = leave(k);
        for (int y = 0; y < h; y++) for (int x = 0; x < w; x++) if (l[colour][y][x] != -2) r.add(l[colour][y][x]);
        return r;
    }

    public int levels(int k, int colour, int what) {
        if (!leaves(k) || !is(colour, 2) || !is(what, 25) || (what > 5 && what < 10)) return -1;
        List<Integer> a = all(k, colour);
        if (what == 0) return Collections.min(a);
        if (what == 1) return Collections.max(a);
        if (what == 2) return a.stream().mapToInt(i -> i).sum();
        if (what == 3) return new TreeSet<>(a).size();
        if (what == 4) return Collections.frequency(a, TOP);
        if (what == 5) return Collections.frequency(a, 0);
        return (int) a.stream().filter(i -> i / 256 == what - 10).count();
    }

    public int noise(int k, int colour, int b, int what) {
        if (!leaves(k) || !is(colour, 2) || !is(b, 4) || !is(what, 2)) return -1;
        return behind(k) ? noises(leave(k), colour, b)[what] : -3;
    }

    int[] noises(int[][][] l, int colour, int b) {
        int[] r = new int[3];
        for (int y = 0; y < h; y++)
            for (int x = 0; x < w; x++) {
                int blur = blur(l, colour, x, y), detail = Math.abs(l[colour][y][x] - blur);
                if (b < 4 && (blur < 1024 * b || blur >= 1024 * (b + 1))) continue;
                r[0]++;
                r[1] += detail;
                r[2] = Math.max(r[2], detail);
            }
        return r;
    }

    public int percent(int k, int colour, int p) {
        if (!leaves(k) || !is(colour, 2) || p < 1 || p > 100) return -1;
        List<Integer> a = all(k, colour);
        Collections.sort(a);
        for (int i = 0; i < a.size(); i++) if ((i + 1) * 100 >= p * a.size()) return a.get(i);
        return -99;
    }

    public int bits(int k, int colour) {
        if (!leaves(k) || !is(colour, 2)) return -1;
        int sum = 0, ahead = 0;
        for (int l : all(k, colour)) {
            int d = Math.abs(l / 16 - ahead);
            sum += d == 0 ? 1 : 1 + 2 * Integer.toBinaryString(d).length();
            ahead = l / 16;
        }
        return sum;
    }

    public int ring(int k, int colour, int i, int what) {
        if (!leaves(k) || !is(colour, 2) || !is(i, 3) || !is(what, 1)) return -1;
        int[][][] l = leave(k);
        int many = 0, sum = 0;
        for (int y = 0; y < h; y++)
            for (int x = 0; x < w; x++)
                if (l[colour][y][x] != -2 && sq(x, y) * 4 / (w * w + h * h) == i) {
                    many++;
                    sum += l[colour][y][x];
                }
        return what == 0 ? many : many == 0 ? -2 : sum / many;
    }

    public int edges(int k, int much) {
        if (!leaves(k) || !is(much, 8190)) return -1;
        if (!behind(k)) return -3;
        int[][][] l = leave(k);
        int many = 0;
        for (int y = 0; y < h; y++)
            for (int x = 0; x < w; x++) {
                int a = light(l, mx(x - 1), y) - light(l, mx(x + 1), y);
                int d = light(l, x, my(y - 1)) - light(l, x, my(y + 1));
                if (Math.abs(a) + Math.abs(d) >= much) many++;
            }
        return many;
    }

    public long error(int k, int colour, int what) {
        if (!leaves(k) || !is(colour, 2) || !is(what, 2)) return -1;
        if (!behind(k)) return -3;
        return truth == null ? -4 : errors(leave(k), colour)[what];
    }

    long[] errors(int[][][] l, int colour) {
        long[] r = new long[3];
        for (int y = 0; y < h; y++)
            for (int x = 0; x < w; x++) {
                long e = Math.abs(l[colour][y][x] - 16 * truth[colour][y][x]);
                r[0] += e;
                r[1] = Math.max(r[1], e);
                r[2] += e * e;
            }
        return r;
    }

    public int falseOnes(int k, int much) {
        if (!leaves(k) || !is(much, TOP)) return -1;
        return behind(k) ? falses(leave(k), much) : -3;
    }

    int falses(int[][][] l, int much) {
        int many = 0;
        for (int y = 0; y < h; y++) for (int x = 0; x < w; x++) if (max(l, x, y) - min(l, x, y) > much) many++;
        return many;
    }

    public int places(int k, int colour, int level, int what) {
        if (!leaves(k) || !is(colour, 2) || !is(level, TOP) || !is(what, 2)) return -1;
        if (!behind(k)) return -3;
        int[][][] l = leave(k);
        boolean[][] in = new boolean[h][w];
        for (int y = 0; y < h; y++) for (int x = 0; x < w; x++) in[y][x] = l[colour][y][x] >= level;
        return clumps(in, false)[what];
    }

    int[] differences(int[][][] a, int[][][] b) {
        int[] r = new int[2];
        for (int c = 0; c < 3; c++)
            for (int y = 0; y < h; y++)
                for (int x = 0; x < w; x++) {
                    int d = Math.abs(a[c][y][x] - b[c][y][x]);
                    if (d != 0) r[0]++;
                    r[1] = Math.max(r[1], d);
                }
        return r;
    }

    public int unlike(int j, int k, int what) {
        if (!leaves(j) || !leaves(k) || !is(what, 1)) return -1;
        return behind(j) != behind(k) ? -3 : differences(leave(j), leave(k))[what];
    }

    public int without(int k, int what) {
        if (!has(k) || !is(what, 1)) return -1;
        if (letter(k) == 'f') return -3;
        List<Stage> others = new ArrayList<>(stages);
        others.remove(k - 1);
        return differences(leave(stages.size()), leave(others))[what];
    }

    public int best(int k, int what) {
        if (!has(k) || !is(what, 2)) return -1;
        if ("bdlwhmyns".indexOf(letter(k)) < 0) return -3;
        if (fAt() == 0 || (what == 2 && truth == null)) return -4;
        long least = Long.MAX_VALUE;
        int best = -99;
        for (int n = 0; n <= 8; n++) {
            List<Stage> others = new ArrayList<>(stages);
            List<Integer> numbers = new ArrayList<>(others.get(k - 1).numbers);
            numbers.set(0, n);
            others.set(k - 1, new Stage(letter(k), numbers));
            int[][][] l = leave(others);
            long much = what == 1 ? falses(l, 256) : 0;
            for (int c = 0; c < 3 && what != 1; c++) much += what == 0 ? noises(l, c, 4)[1] : errors(l, c)[0];
            if (much < least) {
                least = much;
                best = n;
            }
        }
        return best;
    }

    public int count(int what) {
        return !is(what, 3) ? -1 : new int[] {stages.size(), tape.size(), chance, fAt()}[what];
    }
}
