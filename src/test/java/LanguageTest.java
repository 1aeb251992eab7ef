import java.io.PrintWriter;
import java.io.StringWriter;
import java.lang.reflect.Constructor;
import java.lang.reflect.Field;
import java.lang.reflect.Method;
import java.lang.reflect.Modifier;
import java.nio.file.Files;
import java.nio.file.Path;
import java.util.ArrayList;
import java.util.Arrays;
import java.util.List;
import java.util.Map;
import java.util.Set;
import java.util.TreeMap;
import java.util.TreeSet;
import java.util.regex.Matcher;
import java.util.regex.Pattern;
import java.util.spi.ToolProvider;

/** The document's face, and those rules of LANGUAGE.md that a test can see. */
public final class LanguageTest {
    private static final String[] FACE = {
        "int feed(int,int,int,int,int)", "int stages(int)", "boolean raw(int,int,int)", "boolean row(int)",
        "boolean pixel(int,int,int)", "int dead(int,int,boolean)", "boolean scene(int,int,int)", "boolean truth(int)",
        "int rawIs(int)", "int colour(int,int)", "int stage(int,int)", "int left(int,int,int,int)", "int found(int,int)",
        "int groups(int,int)", "int dark(int,int)", "int middle(int,int,int)", "int way(int,int)", "int ways(int)",
        "int white(int,int)", "int base(int,int,int)", "int tone(int,int,int,int)", "int levels(int,int,int)",
        "int noise(int,int,int,int)", "int percent(int,int,int)", "int bits(int,int)", "int ring(int,int,int,int)",
        "int edges(int,int)", "long error(int,int,int)", "int falseOnes(int,int)", "int places(int,int,int,int)",
        "int unlike(int,int,int)", "int without(int,int)", "int best(int,int)", "boolean seed(int)", "int keep()",
        "boolean undo()", "int check(int)", "int count(int)"};
    private static int wrong = 0;

    private static void must(boolean holds, String what) {
        if (!holds) {
            wrong++;
            System.out.println("not so: " + what);
        }
    }

    public static void main(String[] args) throws Exception {
        face();
        classesInside();
        String source = Files.readString(Path.of("src/main/java/RawPictures.java"));
        words(source);
        methods(source);
        depth();
        System.out.println(wrong == 0 ? "the rules that can be seen are kept" : wrong + " rules are not kept");
        if (wrong != 0) System.exit(1);
    }

    private static void face() throws Exception {
        Class<?> c = RawPictures.class;
        must(Modifier.isPublic(c.getModifiers()) && Modifier.isFinal(c.getModifiers()), "public final class");
        Set<String> got = new TreeSet<>();
        for (Method m : c.getDeclaredMethods()) {
            if (m.isSynthetic() || Modifier.isPrivate(m.getModifiers())) continue;
            must(Modifier.isPublic(m.getModifiers()) && !Modifier.isStatic(m.getModifiers()), m + " is public");
            StringBuilder s = new StringBuilder(m.getReturnType().getName()).append(' ').append(m.getName()).append('(');
            for (Class<?> p : m.getParameterTypes()) s.append(s.charAt(s.length() - 1) == '(' ? "" : ",").append(p.getName());
            got.add(s.append(')').toString());
        }
        must(got.equals(new TreeSet<>(Arrays.asList(FACE))), "the face is that of the document, but it is " + got);
        for (Field f : c.getDeclaredFields()) {
            must(Modifier.isPrivate(f.getModifiers()) || f.getName().equals("NONE"), f + " is private");
        }
        Constructor<?>[] makers = c.getDeclaredConstructors();
        must(makers.length == 1 && Modifier.isPublic(makers[0].getModifiers()) && makers[0].getParameterCount() == 0,
            "one public constructor");
        int none = c.getField("NONE").getModifiers();
        must(Modifier.isPublic(none) && Modifier.isStatic(none) && Modifier.isFinal(none), "public static final NONE");
    }

    private static void classesInside() {
        Set<String> faceNames = new TreeSet<>();
        for (String f : FACE) faceNames.add(f.substring(f.indexOf(' ') + 1, f.indexOf('(')));
        List<Class<?>> all = new ArrayList<>(Arrays.asList(RawPictures.class.getDeclaredClasses()));
        must(all.size() + 1 <= 12, "no more than twelve classes");
        all.add(RawPictures.class);
        for (Class<?> c : all) {
            if (c != RawPictures.class) must(Modifier.isStatic(c.getModifiers()), c + " is static");
            int fields = 0;
            for (Field f : c.getDeclaredFields()) {
                if (!Modifier.isStatic(f.getModifiers())) fields++;
                else must(Modifier.isFinal(f.getModifiers()), f + " is final");
            }
            must(fields <= 20, c + " has no more than twenty fields");
            for (Method m : c.getDeclaredMethods()) {
                must(m.getParameterCount() <= 7, m + " has no more than seven parameters");
                must(Modifier.isPublic(m.getModifiers()) && c == RawPictures.class || !faceNames.contains(m.getName()),
                    m + " has no name of the face");
                must(!m.getName().contains("lambda"), m + " is no lambda");
            }
        }
    }

    private static void words(String source) {
        String code = source.replaceAll("(?s)/\\*.*?\\*/", "").replaceAll("//[^\n]*", "");
        for (char sign : source.toCharArray()) must(sign < 128, "signs are 1 to 127");
        for (String word : new String[] {"throw", "throws", "try", "catch", "synchronized", "assert", "package", "double",
            "float", "protected", "Object", "Exception", "System.out", "Random", "Thread", "volatile"}) {
            must(!Pattern.compile("\\b" + Pattern.quote(word) + "\\b").matcher(code).find(), "no " + word);
        }
        must(!code.contains("->") && !code.contains("::"), "no lambda, no method reference");
        must(!Pattern.compile("static\\s*\\{").matcher(code).find(), "no static block");
        must(!Pattern.compile("\"\\s*\\+|\\+\\s*\"").matcher(code).find(), "no texts joined by +");
        Matcher imports = Pattern.compile("import ([^;]*);").matcher(code);
        while (imports.find()) {
            must(Set.of("java.util.Arrays", "java.util.ArrayList", "java.util.List").contains(imports.group(1)), "import " + imports.group(1));
        }
        Matcher calls = Pattern.compile("\\b(Math|Integer|Long|Arrays|System)\\.(\\w+)").matcher(code);
        while (calls.find()) {
            must(Set.of("max", "min", "abs", "bitCount", "fill", "arraycopy").contains(calls.group(2)), "call of " + calls.group());
        }
    }

    /** How deep calls go, those of the library too, by the calls that javap shows. */
    private static void depth() {
        Map<String, Set<String>> calls = new TreeMap<>();
        List<String> names = new ArrayList<>(List.of("-c", "-p", "-cp", System.getProperty("java.class.path"), "RawPictures"));
        for (Class<?> c : RawPictures.class.getDeclaredClasses()) names.add(c.getName());
        StringWriter out = new StringWriter();
        ToolProvider.findFirst("javap").orElseThrow().run(new PrintWriter(out), new PrintWriter(out), names.toArray(new String[0]));
        String owner = "", method = "";
        for (String line : out.toString().split("\n")) {
            Matcher type = Pattern.compile("class (\\S+) \\{").matcher(line);
            Matcher head = Pattern.compile("^  \\S.*?([\\w$]+)\\(.*\\);$").matcher(line);
            Matcher call = Pattern.compile("// Method (?:([\\w$/]+)\\.)?\"?([\\w<>]+)\"?:").matcher(line);
            if (type.find()) owner = type.group(1);
            else if (head.find()) method = owner + "." + (head.group(1).equals(owner) ? "<init>" : head.group(1));
            else if (call.find()) {
                String target = (call.group(1) == null ? owner : call.group(1)) + "." + call.group(2);
                calls.computeIfAbsent(method, m -> new TreeSet<>()).add(target);
            }
        }
        must(calls.size() > 50, "javap shows calls");
        for (String m : calls.keySet()) {
            List<String> longest = deepest(m, calls, 0);
            must(longest.size() <= 8, "no more than eight deep: " + longest);
        }
    }

    private static List<String> deepest(String m, Map<String, Set<String>> calls, int depth) {
        List<String> most = new ArrayList<>();
        for (String next : depth > 30 ? Set.<String>of() : calls.getOrDefault(m, Set.of())) {
            List<String> one = deepest(next, calls, depth + 1);
            if (one.size() > most.size()) most = one;
        }
        List<String> all = new ArrayList<>(List.of(m));
        all.addAll(most);
        return all;
    }

    /** By the indents that the file keeps: a method ends at the brace below its own beginning. */
    private static void methods(String source) {
        String[] lines = source.split("\n");
        for (int i = 0; i < lines.length; i++) {
            Matcher head = Pattern.compile("^( {4}| {8})(?!class)[a-zA-Z].*\\) \\{$").matcher(lines[i]);
            if (!head.find() || lines[i].contains(" class ")) continue;
            int end = i;
            while (end < lines.length && !lines[end].equals(head.group(1) + "}")) end++;
            must(end - i < 60, "short: " + lines[i].trim());
        }
    }
}
