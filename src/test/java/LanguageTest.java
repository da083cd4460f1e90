import java.io.IOException;
import java.lang.reflect.Constructor;
import java.lang.reflect.Field;
import java.lang.reflect.Method;
import java.lang.reflect.Modifier;
import java.nio.file.Files;
import java.nio.file.Path;
import java.util.HashSet;
import java.util.List;
import java.util.Set;
import java.util.TreeSet;
import java.util.regex.Matcher;
import java.util.regex.Pattern;

/** What of the language's rules can be seen from the source and from the compiled class. */
public final class LanguageTest {
    private static final List<String> FACE = List.of("feed 5", "end 1", "yard 0", "rule 0", "force 1", "conker 2",
        "round 0", "bout 2", "pickle 2", "mend 1", "string 2", "undo 0", "would 3", "beats 1", "last 1", "own 1", "cups 1",
        "ladder 1", "rings 0", "kings 0", "ahead 3", "smashed 1", "alone 0", "best 2", "hards 2", "swings 1", "rests 4",
        "pence 2", "note 3", "ruled 1", "look 2", "seed 1", "frost 4", "count 1", "image 1", "back 1");
    private static final Set<String> LIBRARY = Set.of("Integer.bitCount", "Math.min", "Math.max", "System.arraycopy");

    public static void main(String[] args) throws IOException {
        face();
        nested();
        source(Files.readString(Path.of("src/main/java/ConkerYard.java")));
        Due.close("LanguageTest");
    }

    private static void face() {
        Class<?> type = ConkerYard.class;
        Due.holds("public and final", Modifier.isPublic(type.getModifiers()) && Modifier.isFinal(type.getModifiers()));
        Set<String> seen = new TreeSet<>();
        for (Method method : type.getDeclaredMethods()) {
            boolean isPublic = Modifier.isPublic(method.getModifiers());
            Due.holds(method + " is public or private", isPublic || Modifier.isPrivate(method.getModifiers()));
            if (isPublic) {
                seen.add(method.getName() + " " + method.getParameterCount());
                Due.holds(method + " answers int", method.getReturnType() == int.class);
            }
        }
        Due.holds("the face: " + seen, seen.equals(new TreeSet<>(FACE)));
        for (Constructor<?> constructor : type.getDeclaredConstructors()) {
            Due.holds("the constructor", constructor.getParameterCount() == 0
                && Modifier.isPublic(constructor.getModifiers()));
        }
        for (Field field : type.getDeclaredFields()) {
            boolean isNone = field.getName().equals("NONE");
            Due.holds(field + " is private", isNone || Modifier.isPrivate(field.getModifiers()));
        }
    }

    private static void nested() {
        Set<String> publics = new HashSet<>();
        for (String name : FACE) {
            publics.add(name.substring(0, name.indexOf(' ')));
        }
        Class<?>[] types = ConkerYard.class.getDeclaredClasses();
        Due.holds("at most twelve classes", types.length + 1 <= 12);
        check(ConkerYard.class, Set.of());
        for (Class<?> type : types) {
            Due.holds(type + " is static", Modifier.isStatic(type.getModifiers()));
            Due.holds(type + " is not public", !Modifier.isPublic(type.getModifiers()));
            check(type, publics);
        }
    }

    private static void check(Class<?> type, Set<String> forbidden) {
        int fields = 0;
        for (Field field : type.getDeclaredFields()) {
            boolean isStatic = Modifier.isStatic(field.getModifiers());
            Due.holds(field + ": static is final", !isStatic || Modifier.isFinal(field.getModifiers()));
            fields += isStatic ? 0 : 1;
        }
        Due.holds(type + " has at most twenty fields", fields <= 20);
        for (Method method : type.getDeclaredMethods()) {
            Due.holds(method + " bears no public name", !forbidden.contains(method.getName()));
            Due.holds(method + " takes at most seven", method.getParameterCount() <= 7);
        }
    }

    private static void source(String whole) {
        String bare = whole.replaceAll("(?s)/\\*.*?\\*/", "").replaceAll("//[^\n]*", "").replaceAll("\"[^\"\n]*\"", "\"\"")
            .replaceAll("'(\\\\.|[^'\\\\])'", "0");
        String[] words = {"throw", "throws", "try", "catch", "synchronized", "assert", "import", "package", "native", "var",
            "double", "float", "protected", "transient", "volatile", "hashCode", "random", "currentTimeMillis", "nanoTime"};
        for (String word : words) {
            Due.holds("no " + word, !Pattern.compile("\\b" + word + "\\b").matcher(bare).find());
        }
        Due.holds("no lambda", !bare.contains("->"));
        Due.holds("no method reference", !bare.contains("::"));
        Due.holds("no joining by +", !Pattern.compile("\"\"\\s*\\+|\\+\\s*\"\"").matcher(bare).find());
        Due.holds("no endless loop", !Pattern.compile("while\\s*\\(\\s*true|for\\s*\\(\\s*;").matcher(bare).find());
        for (int i = 0; i < whole.length(); i++) {
            if (whole.charAt(i) > 126) {
                Due.holds("signs below 127 alone", false);
            }
        }
        Matcher calls = Pattern.compile("\\b(Integer|Long|Math|System|Arrays|List|String)\\.(\\w+)").matcher(bare);
        while (calls.find()) {
            Due.holds("the library: " + calls.group(), LIBRARY.contains(calls.group()));
        }
        lengths(bare);
    }

    /** A method begins with a line that ends in ") {" and is indented by 4 or 8 within a class. */
    private static void lengths(String bare) {
        String[] lines = bare.split("\n");
        for (int i = 0; i < lines.length; i++) {
            Matcher head = Pattern.compile("^( {4}| {8})[A-Za-z].*\\) \\{$").matcher(lines[i]);
            if (head.find()) {
                String close = head.group(1) + "}";
                int to = i;
                while (to < lines.length && !lines[to].equals(close)) {
                    to++;
                }
                Due.holds("short: " + lines[i].trim(), to - i <= 60);
            }
        }
    }
}
