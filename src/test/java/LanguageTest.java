import java.io.IOException;
import java.lang.reflect.Constructor;
import java.lang.reflect.Executable;
import java.lang.reflect.Field;
import java.lang.reflect.Method;
import java.lang.reflect.Modifier;
import java.nio.file.Files;
import java.nio.file.Path;
import java.util.ArrayList;
import java.util.List;
import java.util.Set;
import java.util.TreeSet;
import java.util.regex.Matcher;
import java.util.regex.Pattern;

/** The rules of LANGUAGE.md by their numbers, as far as the classes and their text can show them. */
public final class LanguageTest {
    private static final Due due = new Due();
    private static final Class<?>[] CLASSES = BarrowPlank.class.getNestMembers();
    /** What rule 4 leaves of the library, by name. */
    private static final Set<String> LIBRARY = Set.of("length", "charAt", "isEmpty", "equals", "indexOf", "substring",
        "toCharArray", "append", "setCharAt", "setLength", "deleteCharAt", "reverse", "toString", "add", "get", "set",
        "remove", "size", "clear", "compare", "max", "min", "abs", "bitCount", "floorDiv", "floorMod", "arraycopy",
        "copyOf", "copyOfRange", "fill", "clone");
    private static final Set<String> STATICS = Set.of("int", "long", "boolean", "char", "java.lang.String", "int[]",
        "long[]", "char[]", "byte[]");

    public static void main(String[] args) throws IOException {
        String text = Files.readString(Path.of("src/main/java/BarrowPlank.java"));
        String code = text.replaceAll("(?s)/\\*.*?\\*/", "").replaceAll("//[^\\n]*", "");
        classesInside(code);
        types();
        library(code);
        staticFields(code);
        ruledOutWords(code);
        joinedTexts(code);
        sizes(code);
        due.end();
    }

    private static void hasNone(String rule, String code, String pattern) {
        Matcher found = Pattern.compile(pattern).matcher(code);
        due.holds("rule " + rule + ": none of " + pattern, !found.find());
    }

    /** Rule 2: static classes inside, no local or anonymous class, no lambda, no method reference. */
    private static void classesInside(String code) {
        due.is("rule 2: all classes are declared in the one", CLASSES.length,
            BarrowPlank.class.getDeclaredClasses().length + 1);
        for (Class<?> c : CLASSES) {
            due.holds("rule 2: " + c + " is static", c == BarrowPlank.class || Modifier.isStatic(c.getModifiers()));
            due.holds("rule 2: " + c + " is neither local nor anonymous", !c.isLocalClass() && !c.isAnonymousClass());
        }
        hasNone("2", code, "->");
        hasNone("2", code, "::");
    }

    /** Rule 3: numbers, own classes, texts, lists of Integer or of own classes; two dimensions of numbers alone. */
    private static void types() {
        for (Class<?> c : CLASSES) {
            for (Field f : c.getDeclaredFields()) {
                due.holds("rule 3: " + f, isLeft(f.getType(), 0));
            }
            for (Method m : c.getDeclaredMethods()) {
                due.holds("rule 3: " + m, m.getReturnType() == void.class || isLeft(m.getReturnType(), 0));
                for (Class<?> p : m.getParameterTypes()) {
                    due.holds("rule 3: " + m + " takes " + p, isLeft(p, 0));
                }
            }
        }
    }

    private static boolean isLeft(Class<?> type, int dimensions) {
        if (type.isArray()) {
            return isLeft(type.getComponentType(), dimensions + 1);
        }
        if (type.isPrimitive()) {
            return dimensions <= 2;
        }
        boolean own = List.of(CLASSES).contains(type);
        boolean text = type == String.class || type == StringBuilder.class || type == Integer.class;
        boolean list = type == ArrayList.class || type == List.class;
        return own && dimensions <= 1 || (text || list) && dimensions == 0;
    }

    /** Rule 4: only what stands there, and what the classes have themselves. */
    private static void library(String code) {
        Matcher imports = Pattern.compile("import\\s+(static\\s+)?([\\w.*]+)\\s*;").matcher(code);
        while (imports.find()) {
            due.holds("rule 4: " + imports.group(), imports.group(1) == null
                && Set.of("java.util.ArrayList", "java.util.List", "java.util.Arrays", "java.util.Iterator")
                    .contains(imports.group(2)));
        }
        Set<String> own = new TreeSet<>();
        for (Class<?> c : CLASSES) {
            for (Method m : c.getDeclaredMethods()) {
                own.add(m.getName());
            }
        }
        Matcher calls = Pattern.compile("\\.\\s*(\\w+)\\s*\\(").matcher(code);
        while (calls.find()) {
            String name = calls.group(1);
            due.holds("rule 4: " + name, own.contains(name) || LIBRARY.contains(name));
        }
        hasNone("4", code, "Exact\\b");
        due.holds("rule 4: signs 1 to 127 alone", code.chars().allMatch(c -> c > 0 && c < 128));
    }

    /** Rule 5: constants of numbers and texts, no other static state, no static block. */
    private static void staticFields(String code) {
        for (Class<?> c : CLASSES) {
            for (Field f : c.getDeclaredFields()) {
                if (Modifier.isStatic(f.getModifiers())) {
                    due.holds("rule 5: " + f + " is final", Modifier.isFinal(f.getModifiers()));
                    due.holds("rule 5: " + f + " is a constant", STATICS.contains(f.getType().getTypeName()));
                }
            }
        }
        hasNone("5", code, "static\\s*\\{");
    }

    /** Rules 1, 3, 6 and 13. */
    private static void ruledOutWords(String code) {
        hasNone("1", code, "\\bprotected\\b");
        hasNone("1", code, "\\bpackage\\b");
        hasNone("3", code, "\\b(Object|Map|Set|Double|Float)\\b");
        hasNone("6", code, "\\b(throw|throws|try|catch|finally|synchronized|volatile|assert)\\b");
        hasNone("6", code, "\\b(hashCode|getClass|toString)\\b");
        hasNone("6", code, "\\bcase\\s+\\w+\\s+\\w+\\s*:");
        hasNone("12", code, "\\.iterator\\(|\\.values\\(");
        hasNone("13", code, "\\b(Random|Thread|Runtime|Process|nanoTime|currentTimeMillis|getenv|getProperty|random)\\b");
        hasNone("13", code, "java\\.(io|nio|net|time|lang)\\b");
        hasNone("13", code, "@");
    }

    /** Rule 10: texts are joined by StringBuilder alone. */
    private static void joinedTexts(String code) {
        hasNone("10", code, "\"\\s*\\+");
        hasNone("10", code, "\\+\\s*\"");
    }

    /** Rule 11: seven parameters, some sixty lines, some twelve classes, some twenty fields. */
    private static void sizes(String code) {
        due.holds("rule 11: twelve classes", CLASSES.length <= 12);
        for (Class<?> c : CLASSES) {
            List<Executable> all = new ArrayList<>(List.of(c.getDeclaredMethods()));
            for (Constructor<?> one : c.getDeclaredConstructors()) {
                all.add(one);
            }
            for (Executable one : all) {
                due.holds("rule 11: " + one + " takes seven at most", one.getParameterCount() <= 7);
            }
            long fields = List.of(c.getDeclaredFields()).stream().filter(f -> !Modifier.isStatic(f.getModifiers())).count();
            due.holds("rule 11: " + c + " has twenty fields at most", fields <= 20);
        }
        linesOfMethods(code);
    }

    /** A method begins with a line of a head with ( ) and {, and ends where its { is closed. */
    private static void linesOfMethods(String code) {
        Pattern head = Pattern.compile("^( {4}| {8})(\\w[\\w<>\\[\\], ]*)\\([^()]*\\) \\{$");
        String[] lines = code.split("\n");
        int methods = 0;
        for (int k = 0; k < lines.length; k++) {
            Matcher begins = head.matcher(lines[k]);
            if (begins.find() && !begins.group(2).matches("(if|for|while|switch) ?")) {
                int size = 1;
                while (!lines[k + size].equals(begins.group(1) + "}")) {
                    size++;
                }
                methods++;
                due.holds("rule 11: sixty lines at most: " + lines[k].trim(), size + 1 <= 60);
            }
        }
        int declared = 0;
        for (Class<?> c : CLASSES) {
            for (Method m : c.getDeclaredMethods()) {
                declared += m.isSynthetic() ? 0 : 1;
            }
        }
        due.holds("rule 11: each method was measured", methods >= declared);
    }
}
