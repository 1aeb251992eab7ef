import java.lang.reflect.Method;
import java.lang.reflect.Modifier;
import java.nio.file.DirectoryStream;
import java.nio.file.Files;
import java.nio.file.Path;
import java.util.HashMap;
import java.util.Map;
import java.util.regex.Matcher;
import java.util.regex.Pattern;

/** README.md tells the truth: its calls answer what it says, and it names every call and every test. */
public final class ReadmeTest {
    private static final Pattern CALL = Pattern.compile("^x\\.(\\w+)\\(([^)]*)\\);\\s*// (-?\\d+|true|false):");
    private static int wrong = 0;

    public static void main(String[] args) throws Exception {
        String page = Files.readString(Path.of("README.md"));
        Map<String, Method> face = new HashMap<>();
        for (Method m : RawPictures.class.getDeclaredMethods()) {
            if (Modifier.isPublic(m.getModifiers())) face.put(m.getName(), m);
        }
        for (String name : face.keySet()) must(page.contains("`" + name + "`"), name + " is named");
        try (DirectoryStream<Path> tests = Files.newDirectoryStream(Path.of("src/test/java"), "*Test.java")) {
            for (Path test : tests) {
                String name = test.getFileName().toString().replace(".java", "");
                must(page.contains("`" + name + "`"), name + " is named");
            }
        }
        example(page, face);
        System.out.println(wrong == 0 ? "the page holds" : wrong + " things on the page do not hold");
        if (wrong != 0) System.exit(1);
    }

    private static void must(boolean holds, String what) {
        if (!holds) {
            wrong++;
            System.out.println("not so: " + what);
        }
    }

    /** Every line of the example is made as a call, so that none is passed over unread. */
    private static void example(String page, Map<String, Method> face) throws Exception {
        int start = page.indexOf("```java\n") + 8;
        String[] lines = page.substring(start, page.indexOf("```", start)).split("\n");
        must(lines[0].equals("RawPictures x = new RawPictures();"), "the example begins with a new object");
        RawPictures x = new RawPictures();
        for (int i = 1; i < lines.length; i++) {
            Matcher call = CALL.matcher(lines[i]);
            if (!call.find() || !face.containsKey(call.group(1))) {
                must(false, "a call with its answer: " + lines[i]);
                continue;
            }
            String[] told = call.group(2).isEmpty() ? new String[0] : call.group(2).split(", ");
            Object[] values = new Object[told.length];
            for (int j = 0; j < told.length; j++) values[j] = Integer.decode(told[j]);
            Object got = face.get(call.group(1)).invoke(x, values);
            must(got.toString().equals(call.group(3)), lines[i] + " (it answers " + got + ")");
        }
        must(lines.length > 10, "there is an example");
    }
}
