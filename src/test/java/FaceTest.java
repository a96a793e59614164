import java.io.IOException;
import java.lang.reflect.Constructor;
import java.lang.reflect.Field;
import java.lang.reflect.Method;
import java.lang.reflect.Modifier;
import java.nio.charset.StandardCharsets;
import java.nio.file.Files;
import java.nio.file.Path;
import java.util.Arrays;
import java.util.List;
import java.util.Map;
import java.util.TreeMap;

/** The document's face, and the rules of LANGUAGE.md that can be seen by reflection or in the source. */
public final class FaceTest {
    private static final Due DUE = new Due();
    private static final Path SOURCE = Path.of("src/main/java/HayTalk.java");
    private static final Map<String, Integer> FACE = new TreeMap<>();

    public static void main(String[] args) throws IOException, IllegalAccessException {
        String[] names = {
            "write 1", "wipe 0", "fault 0", "lay 0", "mower 2", "cow 2", "rick 2", "layer 3", "pass 1", "rake 3",
            "cut 2", "turn 1", "heap 2", "undo 0", "behind 3", "burns 1", "tell 3", "rakes 1", "most 2", "first 2",
            "needle 3", "see 2", "forget 0", "which 0", "kinds 2", "rain 5", "february 3", "keep 0", "back 0", "count 1"};
        for (String name : names) {
            FACE.put(name.split(" ")[0], Integer.parseInt(name.split(" ")[1]));
        }
        face();
        constants();
        insides();
        source();
        DUE.end("FaceTest");
    }

    private static void so(String what, boolean holds) {
        DUE.due(what, holds ? 1 : 0, 1);
    }

    private static void face() {
        so("public", Modifier.isPublic(HayTalk.class.getModifiers()));
        so("final", Modifier.isFinal(HayTalk.class.getModifiers()));
        so("no package", HayTalk.class.getPackageName().isEmpty());
        Constructor<?>[] constructors = HayTalk.class.getDeclaredConstructors();
        DUE.due("constructors", constructors.length, 1);
        so("a public constructor", Modifier.isPublic(constructors[0].getModifiers()));
        DUE.due("its parameters", constructors[0].getParameterCount(), 0);
        int found = 0;
        for (Method method : HayTalk.class.getDeclaredMethods()) {
            String name = method.getName();
            if (FACE.containsKey(name)) {
                found++;
                so(name + " is public", Modifier.isPublic(method.getModifiers()));
                so(name + " is no static one", !Modifier.isStatic(method.getModifiers()));
                so(name + " answers int", method.getReturnType() == int.class);
                DUE.due(name + ", parameters", method.getParameterCount(), FACE.get(name));
                so(name + " takes int", Arrays.stream(method.getParameterTypes()).allMatch(t -> t == int.class));
            } else {
                so(name + " is private", Modifier.isPrivate(method.getModifiers()));
            }
        }
        DUE.due("methods", found, FACE.size());
    }

    private static void constants() throws IllegalAccessException {
        Map<String, Integer> due = Map.of("BAD", -1, "NO", -2, "FULL", -3, "NONE", -4);
        int found = 0;
        for (Field field : HayTalk.class.getDeclaredFields()) {
            if (due.containsKey(field.getName())) {
                found++;
                so(field.getName() + " is public static final", (field.getModifiers() & 25) == 25);
                DUE.due(field.getName(), field.getInt(null), due.get(field.getName()));
            } else {
                so(field.getName() + " is private", Modifier.isPrivate(field.getModifiers()));
            }
        }
        DUE.due("constants", found, 4);
    }

    private static void insides() {
        Class<?>[] insides = HayTalk.class.getDeclaredClasses();
        so("some twelve classes", insides.length < 12);
        inside(HayTalk.class);
        for (Class<?> inside : insides) {
            so(inside + " is static", Modifier.isStatic(inside.getModifiers()));
            so(inside + " is not public", (inside.getModifiers() & (Modifier.PUBLIC | Modifier.PROTECTED)) == 0);
            for (Method method : inside.getDeclaredMethods()) {
                so(method + " has no name of the face", !FACE.containsKey(method.getName()));
            }
            inside(inside);
        }
    }

    private static void inside(Class<?> type) {
        int fields = 0;
        for (Field field : type.getDeclaredFields()) {
            boolean ofClass = Modifier.isStatic(field.getModifiers());
            so(field + " is final if static", !ofClass || Modifier.isFinal(field.getModifiers()));
            fields += ofClass ? 0 : 1;
        }
        so(type + ": some twenty fields", fields <= 20);
        for (Method method : type.getDeclaredMethods()) {
            so(method + ": seven parameters", method.getParameterCount() <= 7);
        }
    }

    private static void source() throws IOException {
        String text = Files.readString(SOURCE, StandardCharsets.ISO_8859_1);
        so("signs of 10 and 32 to 126", text.chars().allMatch(c -> c == 10 || c >= 32 && c <= 126));
        List<String> refused = List.of(
            "package ", "finally", "synchronized", "assert ", "->", "::", "java.io", "java.nio", "java.time", "java.lang",
            "Exact(", "Random", "System.c", "System.n", "System.o", "Thread", "hashCode", "toString", "static {");
        // the document names no exception, so none is thrown and none is to be caught
        for (String word : List.of("throw ", "throws ", "try ", "catch ")) {
            so("no '" + word + "'", !text.contains(word));
        }
        for (String word : refused) {
            so("no '" + word + "'", !text.contains(word));
        }
        for (String line : text.split("\n")) {
            so(line, !line.startsWith("import ") || line.equals("import java.util.Arrays;"));
            so("a line of some 120 signs: " + line, line.length() <= 120);
        }
        DUE.due("no method of more than sixty lines", longestMethod(text) <= 60 ? 1 : 0, 1);
    }

    /** A method starts at a line that ends with ") {" behind a line that is empty or a comment. */
    private static int longestMethod(String text) {
        String[] lines = text.split("\n");
        int longest = 0;
        for (int i = 1; i < lines.length; i++) {
            String ahead = lines[i - 1].trim();
            if (lines[i].endsWith(") {") && (ahead.isEmpty() || ahead.endsWith("*/"))) {
                String end = lines[i].substring(0, lines[i].length() - lines[i].stripLeading().length()) + "}";
                int length = 1;
                while (i + length < lines.length && !lines[i + length].equals(end)) {
                    length++;
                }
                longest = Math.max(longest, length + 1);
            }
        }
        return longest;
    }
}
