import java.lang.reflect.Constructor;
import java.lang.reflect.Field;
import java.lang.reflect.Method;
import java.lang.reflect.Modifier;
import java.nio.file.Files;
import java.nio.file.Path;
import java.util.ArrayList;
import java.util.Arrays;
import java.util.List;
import java.util.TreeSet;
import java.util.regex.Matcher;
import java.util.regex.Pattern;

/** The public face of the document, and those rules of LANGUAGE.md that can be seen from outside. */
public final class FaceTest {
    private static final Check CHECK = new Check("FaceTest");

    static final String[] METHODS = {
        "knight IIII", "arms IIII", "rank II", "of II", "near ", "feed I", "ordain ", "scrap ", "force I", "worth II",
        "joust II", "stroke IIII", "copy IIIIII", "sheet III", "wins II", "won I", "best ", "owes I", "pay III",
        "purse I", "challenge II", "withdraw ", "turn I", "turns ", "feud IIZ", "tent I", "many I"};

    private static final String[] CONSTANTS = {
        "NUMBER -1", "FULL -2", "TWICE -3", "NONE -4", "YIELDS -5", "NOTHING -1000000", "FAULT -100"};

    public static void main(String[] args) throws Exception {
        Class<?> type = TiltLists.class;
        CHECK.due("public and final", type.getModifiers() & (Modifier.PUBLIC | Modifier.FINAL),
            Modifier.PUBLIC | Modifier.FINAL);
        methods(type);
        constants(type);
        constructors(type);
        privateNames(type);
        source();
        members();
        CHECK.end();
    }

    private static void same(String what, List<String> got, String[] due) {
        TreeSet<String> left = new TreeSet<>(got);
        TreeSet<String> right = new TreeSet<>(Arrays.asList(due));
        CHECK.due(what + " " + left + " against " + right, left.equals(right) ? 1 : 0, 1);
    }

    private static void methods(Class<?> type) {
        List<String> got = new ArrayList<>();
        for (Method m : type.getDeclaredMethods()) {
            if (!Modifier.isPrivate(m.getModifiers()) && !m.isSynthetic()) {
                StringBuilder sb = new StringBuilder(m.getName()).append(' ');
                for (Class<?> p : m.getParameterTypes()) {
                    sb.append(p == int.class ? 'I' : p == boolean.class ? 'Z' : '?');
                }
                got.add(sb.toString());
                CHECK.due(m + " is public, not static and answers an int",
                    m.getReturnType() == int.class && m.getModifiers() == Modifier.PUBLIC ? 1 : 0, 1);
            }
        }
        same("methods", got, METHODS);
    }

    private static void constants(Class<?> type) throws IllegalAccessException {
        List<String> got = new ArrayList<>();
        for (Field f : type.getDeclaredFields()) {
            if (!Modifier.isPrivate(f.getModifiers())) {
                got.add(f.getName() + " " + f.getInt(null));
                CHECK.due(f + " is public static final int", f.getType() == int.class
                    && f.getModifiers() == (Modifier.PUBLIC | Modifier.STATIC | Modifier.FINAL) ? 1 : 0, 1);
            }
        }
        same("constants", got, CONSTANTS);
    }

    private static void constructors(Class<?> type) {
        Constructor<?>[] all = type.getDeclaredConstructors();
        CHECK.due("constructors", all.length, 1);
        CHECK.due("its parameters", all[0].getParameterCount(), 0);
        CHECK.due("its modifiers", all[0].getModifiers(), Modifier.PUBLIC);
    }

    private static void privateNames(Class<?> type) {
        TreeSet<String> face = new TreeSet<>();
        for (String m : METHODS) {
            face.add(m.substring(0, m.indexOf(' ')));
        }
        List<Class<?>> all = new ArrayList<>(Arrays.asList(type.getDeclaredClasses()));
        CHECK.due("at most twelve classes", all.size() <= 11 ? 1 : 0, 1);
        for (Class<?> inner : all) {
            CHECK.due(inner + " is static", Modifier.isStatic(inner.getModifiers()) ? 1 : 0, 1);
            for (Method m : inner.getDeclaredMethods()) {
                CHECK.due(m + " has no name of the face", face.contains(m.getName()) ? 1 : 0, 0);
            }
        }
        for (Method m : type.getDeclaredMethods()) {
            if (Modifier.isPrivate(m.getModifiers())) {
                CHECK.due(m + " has no name of the face", face.contains(m.getName()) ? 1 : 0, 0);
            }
        }
    }

    /** Rules 1, 3 to 6 and 11, as far as words and lines show them. */
    private static void source() throws Exception {
        String source = Files.readString(Path.of("src/main/java/TiltLists.java"));
        String bare = source.replaceAll("(?s)/\\*.*?\\*/", "").replaceAll("//[^\n]*", "");
        none("forbidden", bare, "\\b(throw|throws|try|catch|finally|synchronized|assert|import|package|native"
            + "|volatile|double|float|\\w*Exact)\\b|->|::|\\[\\]\\[\\]");
        none("no part of the library that may be used", bare, "\\b(?:Math|Integer|System|Arrays|String|Long)\\."
            + "(?!(?:min|max|abs|floorDiv|floorMod|bitCount|compare|arraycopy)\\b)\\w+");
        TreeSet<String> known = new TreeSet<>(Arrays.asList("TiltLists", "Math", "Integer", "System"));
        for (Class<?> inner : TiltLists.class.getDeclaredClasses()) {
            known.add(inner.getSimpleName());
        }
        Matcher types = Pattern.compile("\\b[A-Z]\\w*[a-z]\\w*\\b").matcher(bare);
        while (types.find()) {
            CHECK.due("the class " + types.group() + " is known", known.contains(types.group()) ? 1 : 0, 1);
        }
        // What the README says: rows are made with the object, and no call makes another one.
        none("made by a call", bare, "(?m)^(?! *private final int\\[\\] \\w+ = new int| {8}\\w+ = new [A-Z]).*\\bnew\\b.*$");
        methodLengths(source.split("\n"));
    }

    private static void none(String what, String text, String pattern) {
        Matcher m = Pattern.compile(pattern).matcher(text);
        while (m.find()) {
            CHECK.due(what + ": " + m.group(), 1, 0);
        }
        CHECK.due(what, 0, 0);
    }

    /** Rule 11: "Methods stay short (some sixty lines)"; a method's braces stand at one indent. */
    private static void methodLengths(String[] lines) {
        for (int i = 0; i < lines.length; i++) {
            if (lines[i].matches(" {4}(?: {4})?(?! )[^=/*]*\\(.*\\) \\{")) {
                String end = lines[i].replaceAll("\\S.*", "") + "}";
                int length = 1;
                while (i + length < lines.length && !lines[i + length].equals(end)) {
                    length++;
                }
                CHECK.due("lines of " + lines[i].trim() + " " + length, length <= 60 ? 1 : 0, 1);
            }
        }
    }

    /** Rules 5 and 11: static fields are final ones of numbers or texts; few fields, few parameters. */
    private static void members() {
        List<Class<?>> all = new ArrayList<>(Arrays.asList(TiltLists.class.getDeclaredClasses()));
        all.add(TiltLists.class);
        for (Class<?> type : all) {
            int fields = 0;
            for (Field f : type.getDeclaredFields()) {
                boolean isStatic = Modifier.isStatic(f.getModifiers());
                fields += isStatic ? 0 : 1;
                CHECK.due(f + " is final if it is static", !isStatic || Modifier.isFinal(f.getModifiers()) ? 1 : 0, 1);
                CHECK.due(f + " is a number if it is static", !isStatic || f.getType().isPrimitive() ? 1 : 0, 1);
            }
            CHECK.due("fields of " + type, fields <= 20 ? 1 : 0, 1);
            for (Method m : type.getDeclaredMethods()) {
                CHECK.due("parameters of " + m, m.getParameterCount() <= 7 ? 1 : 0, 1);
            }
        }
    }
}
