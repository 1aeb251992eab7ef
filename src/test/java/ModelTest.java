import java.lang.reflect.Method;
import java.util.Arrays;
import java.util.Random;

/** Long runs of calls, the same ones on RawPictures and on the plain Model: all answers must be alike. */
public final class ModelTest {
    private static final int RUNS = 200;
    private static final int CALLS = 512;
    private static final int[] ODD = {-1, -2, Integer.MIN_VALUE, Integer.MAX_VALUE, 256, 4096, 8191, 65536, 17, 140};

    private final Random random;
    private final RawPictures pictures = new RawPictures();
    private final Model model = new Model();
    private final StringBuilder told = new StringBuilder();
    private int calls = 0;

    private ModelTest(long seed) {
        random = new Random(seed);
    }

    public static void main(String[] args) throws Exception {
        int wrong = 0;
        for (int run = 0; run < RUNS; run++) {
            if (!new ModelTest(run).isAlike(run)) wrong++;
        }
        System.out.println(wrong == 0 ? RUNS + " runs are alike" : wrong + " runs are not alike");
        if (wrong != 0) System.exit(1);
    }

    private boolean isAlike(int run) throws Exception {
        Method[] all = Arrays.stream(RawPictures.class.getDeclaredMethods())
            .filter(m -> java.lang.reflect.Modifier.isPublic(m.getModifiers()))
            .sorted((a, b) -> a.getName().compareTo(b.getName())).toArray(Method[]::new);
        while (calls < CALLS) {
            if (!change()) return tell(run);
            for (int i = 0; i < 30; i++) {
                Method m = all[random.nextInt(all.length)];
                boolean isRare = "raw undo stages feed truth check row scene".contains(m.getName());
                if (isRare && random.nextInt(4) != 0) continue;
                if (!same(m.getName(), argumentsOf(m))) return tell(run);
            }
        }
        return true;
    }

    private boolean tell(int run) {
        System.out.println("run " + run + ": " + told);
        return false;
    }

    /** Something that makes the calls that follow worth while. */
    private boolean change() throws Exception {
        if (random.nextInt(3) == 0) {
            int w = 4 + 2 * random.nextInt(7), h = 4 + 2 * random.nextInt(7);
            if (!same("raw", w, h, random.nextInt(4))) return false;
        }
        if (random.nextInt(2) == 0) {
            if (!same("scene", random.nextInt(7), random.nextInt(256), random.nextInt(256))) return false;
        }
        for (int i = random.nextInt(6); i > 0; i--) {
            if (!same("pixel", random.nextInt(16), random.nextInt(16), random.nextInt(256))) return false;
            if (!same("dead", random.nextInt(16), random.nextInt(16), random.nextInt(4) != 0)) return false;
        }
        if (random.nextInt(3) == 0 && !(feedBytes(6) && same("truth", random.nextInt(6)))) return false;
        if (random.nextInt(3) != 0) {
            String text = text();
            if (!same("check", 0) || !feedText(text) || !same("stages", text.length())) return false;
        }
        return true;
    }

    private boolean feedBytes(int least) throws Exception {
        for (int many = 0; many < least; many += 20) {
            if (!same("feed", random.nextInt(), random.nextInt(), random.nextInt(), random.nextInt(), random.nextInt())) {
                return false;
            }
        }
        return true;
    }

    private boolean feedText(String text) throws Exception {
        // what stands behind the text is not read, even if it would fit
        char behind = "a05;:,>".charAt(random.nextInt(7));
        for (int at = 0; at < text.length(); at += 20) {
            Object[] five = new Object[5];
            for (int i = 0; i < 5; i++) {
                int four = 0;
                for (int j = 0; j < 4; j++) {
                    int place = at + 4 * i + j;
                    four = four << 8 | (place < text.length() ? text.charAt(place) : behind);
                }
                five[i] = four;
            }
            if (!same("feed", five)) return false;
        }
        return true;
    }

    /** Mostly a right text of stages, at times one with a fault. */
    private String text() {
        StringBuilder s = new StringBuilder();
        int early = random.nextInt(5), late = random.nextInt(5) == 0 ? random.nextInt(9) : random.nextInt(5);
        for (int i = 0; i < early; i++) s.append(stage("bdol".charAt(random.nextInt(4)))).append(';');
        if (random.nextInt(8) != 0 || early == 0) {
            s.append("f:").append(random.nextInt(2)).append(';');
            for (int i = 0; i < late; i++) s.append(stage("vwhygmpnst".charAt(random.nextInt(10)))).append(';');
        }
        s.setLength(s.length() - 1);
        if (random.nextInt(4) == 0) {
            for (int i = random.nextInt(3); i >= 0; i--) harm(s);
        }
        if (s.length() > 120) s.setLength(120);
        return s.toString();
    }

    private void harm(StringBuilder s) {
        int at = random.nextInt(s.length() + 1);
        String signs = ";:,>0123456789999bdolfvwhygmpnst xA\u00ff";
        char sign = signs.charAt(random.nextInt(signs.length()));
        if (at < s.length() && random.nextBoolean()) {
            if (random.nextBoolean()) s.deleteCharAt(at);
            else s.setCharAt(at, sign);
        } else {
            s.insert(at, sign);
        }
    }

    private String stage(char letter) {
        int low = "vop".indexOf(letter) >= 0 ? 1 : 0;
        int high = letter == 'o' || letter == 'p' ? 4 : letter == 'v' ? 3 : letter == 'l' || letter == 'g' || letter == 'n' ? 99 : 32;
        if (letter == 'w' || letter == 'h' || letter == 'd' || letter == 'b') high = random.nextBoolean() ? 254 : 40;
        String first = letter + ":" + (low + random.nextInt(high - low + 1));
        if (letter == 'y' || letter == 'g') return first + "," + random.nextInt(33) + "," + random.nextInt(33);
        if (letter == 'p' || letter == 'n' || letter == 's') return first + "," + random.nextInt(letter == 'p' ? 33 : 100);
        if (letter != 't') return first;
        StringBuilder s = new StringBuilder("t:0>").append(random.nextInt(256));
        for (int x = 1 + random.nextInt(150); x < 255; x += 1 + random.nextInt(150)) {
            s.append(',').append(x).append('>').append(random.nextInt(256));
        }
        return s.append(",255>").append(random.nextInt(256)).toString();
    }

    private Object[] argumentsOf(Method m) {
        Class<?>[] types = m.getParameterTypes();
        Object[] values = new Object[types.length];
        int stages = Math.max(1, model.stages.size());
        for (int i = 0; i < types.length; i++) {
            values[i] = types[i] == boolean.class ? random.nextBoolean() : (Object) anInt(m.getName(), i, stages);
        }
        return values;
    }

    private int anInt(String name, int i, int stages) {
        if (random.nextInt(60) == 0) return ODD[random.nextInt(ODD.length)];
        switch (name) {
            case "feed": return random.nextInt();
            case "seed": return random.nextInt(65536);
            case "stages": return random.nextInt(30);
            case "check": return random.nextInt(5);
            case "raw": return i == 2 ? random.nextInt(5) : 4 + random.nextInt(14);
            case "scene": return i == 0 ? random.nextInt(8) : random.nextInt(257);
            case "truth": return random.nextInt(7);
            case "rawIs": return random.nextInt(9);
            case "count": return random.nextInt(5);
            case "row": return random.nextInt(17);
            case "ways": return random.nextInt(4);
            case "pixel": return i == 2 ? random.nextInt(258) : random.nextInt(10);
            case "colour": case "way": case "dead": return random.nextInt(random.nextBoolean() ? 5 : 17);
            default: break;
        }
        if (i == 0 || (i == 1 && name.equals("unlike"))) return theStage(name, stages);
        if (name.equals("levels")) return i == 1 ? random.nextInt(4) : random.nextInt(27);
        if (name.equals("percent")) return i == 1 ? random.nextInt(3) : random.nextInt(102);
        if (name.equals("edges")) return random.nextInt(random.nextBoolean() ? 300 : 8191);
        if (name.equals("falseOnes")) return random.nextInt(random.nextBoolean() ? 300 : 4096);
        if (name.equals("places") && i == 2) return random.nextInt(4096);
        if ("left middle base tone dark".contains(name)) return random.nextInt(random.nextBoolean() ? 4 : 16);
        return random.nextInt(5);
    }

    /** A stage of the letter that the call is about, if there is one. */
    private int theStage(String name, int stages) {
        String letter = "found groups middle".contains(name) ? "d" : "dark".equals(name) ? "o" : "white".equals(name) ? "w"
            : "base".equals(name) ? "p" : "tone".equals(name) ? "y" : "";
        if (!letter.isEmpty() && random.nextInt(8) != 0) {
            for (int k = 1; k <= model.stages.size(); k++) {
                if (model.letter(k) == letter.charAt(0) && random.nextInt(3) != 0) return k;
            }
        }
        return random.nextInt(stages + 2);
    }

    /** Behind the last call that an object may be used for all is free. */
    private boolean same(String name, Object... values) throws Exception {
        if (calls == CALLS) return true;
        calls++;
        Class<?>[] types = Arrays.stream(values).map(v -> v instanceof Boolean ? boolean.class : int.class).toArray(Class<?>[]::new);
        told.append(name).append(Arrays.toString(values)).append(' ');
        Object got = RawPictures.class.getDeclaredMethod(name, types).invoke(pictures, values);
        Object due = Model.class.getDeclaredMethod(name, types).invoke(model, values);
        if (!got.equals(due)) {
            told.append("answered ").append(got).append(", due is ").append(due);
            return false;
        }
        return true;
    }
}
