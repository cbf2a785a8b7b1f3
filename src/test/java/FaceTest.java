import java.lang.reflect.Constructor;
import java.lang.reflect.Field;
import java.lang.reflect.Method;
import java.lang.reflect.Modifier;
import java.nio.file.Files;
import java.nio.file.Path;
import java.util.ArrayList;
import java.util.Arrays;
import java.util.List;
import java.util.TreeSet;
import java.util.regex.Matcher;
import java.util.regex.Pattern;

/** The public face of the document, and those rules of LANGUAGE.md that can be seen from outside. */
public final class FaceTest {
    private static final Check CHECK = new Check("FaceTest");

    private static final String[] METHODS = {
        "knight IIII", "arms IIII", "rank II", "of II", "near ", "feed I", "ordain ", "scrap ", "force I", "worth II",
        "joust II", "stroke IIII", "copy IIIIII", "sheet III", "wins II", "won I", "best ", "owes I", "pay III",
        "purse I", "challenge II", "withdraw ", "turn I", "turns ", "feud IIZ", "tent I", "many I"};

    private static final String[] CONSTANTS = {
        "NUMBER -1", "FULL -2", "TWICE -3", "NONE -4", "YIELDS -5", "NOTHING -1000000", "FAULT -100"};

    public static void main(String[] args) throws Exception {
        Class<?> type = TiltLists.class;
        CHECK.due("public and final", type.getModifiers() & (Modifier.PUBLIC | Modifier.FINAL),
            Modifier.PUBLIC | Modifier.FINAL);
        methods(type);
        constants(type);
        constructors(type);
        privateNames(type);
        words();
        CHECK.end();
    }

    private static void same(String what, List<String> got, String[] due) {
        TreeSet<String> left = new TreeSet<>(got);
        TreeSet<String> right = new TreeSet<>(Arrays.asList(due));
        CHECK.due(what + " " + left + " against " + right, left.equals(right) ? 1 : 0, 1);
    }

    private static void methods(Class<?> type) {
        List<String> got = new ArrayList<>();
        for (Method m : type.getDeclaredMethods()) {
            if (!Modifier.isPrivate(m.getModifiers()) && !m.isSynthetic()) {
                StringBuilder sb = new StringBuilder(m.getName()).append(' ');
                for (Class<?> p : m.getParameterTypes()) {
                    sb.append(p == int.class ? 'I' : p == boolean.class ? 'Z' : '?');
                }
                got.add(sb.toString());
                CHECK.due(m + " is public, not static and answers an int",
                    m.getReturnType() == int.class && m.getModifiers() == Modifier.PUBLIC ? 1 : 0, 1);
            }
        }
        same("methods", got, METHODS);
    }

    private static void constants(Class<?> type) throws IllegalAccessException {
        List<String> got = new ArrayList<>();
        for (Field f : type.getDeclaredFields()) {
            if (!Modifier.isPrivate(f.getModifiers())) {
                got.add(f.getName() + " " + f.getInt(null));
                CHECK.due(f + " is public static final int", f.getType() == int.class
                    && f.getModifiers() == (Modifier.PUBLIC | Modifier.STATIC | Modifier.FINAL) ? 1 : 0, 1);
            }
        }
        same("constants", got, CONSTANTS);
    }

    private static void constructors(Class<?> type) {
        Constructor<?>[] all = type.getDeclaredConstructors();
        CHECK.due("constructors", all.length, 1);
        CHECK.due("its parameters", all[0].getParameterCount(), 0);
        CHECK.due("its modifiers", all[0].getModifiers(), Modifier.PUBLIC);
    }

    private static void privateNames(Class<?> type) {
        TreeSet<String> face = new TreeSet<>();
        for (String m : METHODS) {
            face.add(m.substring(0, m.indexOf(' ')));
        }
        List<Class<?>> all = new ArrayList<>(Arrays.asList(type.getDeclaredClasses()));
        CHECK.due("at most twelve classes", all.size() <= 11 ? 1 : 0, 1);
        for (Class<?> inner : all) {
            CHECK.due(inner + " is static", Modifier.isStatic(inner.getModifiers()) ? 1 : 0, 1);
            for (Method m : inner.getDeclaredMethods()) {
                CHECK.due(m + " has no name of the face", face.contains(m.getName()) ? 1 : 0, 0);
            }
        }
        for (Method m : type.getDeclaredMethods()) {
            if (Modifier.isPrivate(m.getModifiers())) {
                CHECK.due(m + " has no name of the face", face.contains(m.getName()) ? 1 : 0, 0);
            }
        }
    }

    private static void words() throws Exception {
        String source = Files.readString(Path.of("src/main/java/TiltLists.java"));
        String bare = source.replaceAll("(?s)/\\*.*?\\*/", "").replaceAll("//[^\n]*", "");
        Pattern forbidden = Pattern.compile(
            "\\b(throw|throws|try|catch|finally|synchronized|assert|import|package|native|volatile|Exact)\\b|->|::");
        Matcher m = forbidden.matcher(bare);
        while (m.find()) {
            CHECK.due("the word " + m.group() + " in the source", 1, 0);
        }
    }
}
