import java.io.IOException;
import java.lang.reflect.Constructor;
import java.lang.reflect.Field;
import java.lang.reflect.Method;
import java.lang.reflect.Modifier;
import java.nio.file.Files;
import java.nio.file.Path;
import java.util.Arrays;
import java.util.HashSet;
import java.util.Set;
import java.util.TreeSet;
import java.util.regex.Matcher;
import java.util.regex.Pattern;

/** The face as the document has it, and the rules of LANGUAGE.md that can be seen in the text. */
public final class TurnsMultiplesLanguageTest {
    private static final String[] FACE = {
        "letter 1", "house 0", "door 2", "person 2", "go 1", "turn 1", "state 0", "wished 0", "way 3", "can 0",
        "fewest 0", "cheapest 0", "how 1", "nothing 0", "states 0", "keys 1", "been 0", "sure 0", "forEver 1", "nth 1",
        "open 1", "log 1", "order 1", "fills 0", "run 1", "judge 0", "clear 0", "match 0", "seeds 2", "image 0",
        "on 0", "count 1"};
    private static final String[] BANNED = {
        "throw", "throws", "try", "catch", "finally", "synchronized", "assert", "import", "package", "protected",
        "instanceof", "Object", "System", "Random", "Thread"};
    private static int wrong = 0;

    private static void due(boolean holds, String what) {
        if (!holds) {
            wrong++;
            System.out.println("not so: " + what);
        }
    }

    public static void main(String[] args) throws IOException {
        face();
        inside();
        text(Files.readString(Path.of("src/main/java/TurnsMultiples.java")));
        System.out.println(wrong == 0 ? "the language is kept" : wrong + " rules are not kept");
        if (wrong != 0) {
            System.exit(1);
        }
    }

    private static void face() {
        Class<?> face = TurnsMultiples.class;
        due(Modifier.isPublic(face.getModifiers()) && Modifier.isFinal(face.getModifiers()), "public and final");
        Set<String> methods = new TreeSet<>();
        for (Method method : face.getDeclaredMethods()) {
            if (Modifier.isPublic(method.getModifiers())) {
                methods.add(method.getName() + " " + method.getParameterCount());
                due(method.getReturnType() == int.class, method.getName() + " answers an int");
                for (Class<?> parameter : method.getParameterTypes()) {
                    due(parameter == int.class, method.getName() + " takes ints");
                }
            } else {
                due(Modifier.isPrivate(method.getModifiers()) || method.isSynthetic(), method + " is private");
            }
        }
        due(methods.equals(new TreeSet<>(Arrays.asList(FACE))), "the methods of the face: " + methods);
        for (Field field : face.getDeclaredFields()) {
            due(Modifier.isPrivate(field.getModifiers()), field + " is private");
            due(!Modifier.isStatic(field.getModifiers()) || isConstant(field.getType()), field + " is a constant");
        }
        Constructor<?>[] constructors = face.getDeclaredConstructors();
        due(constructors.length == 1 && Modifier.isPublic(constructors[0].getModifiers())
                && constructors[0].getParameterCount() == 0, "the one constructor");
    }

    private static boolean isConstant(Class<?> type) {
        return Arrays.asList(int.class, long.class, boolean.class, char.class, String.class, int[].class, long[].class,
                char[].class, byte[].class).contains(type);
    }

    private static void inside() {
        Set<String> names = new HashSet<>();
        for (String method : FACE) {
            names.add(method.substring(0, method.indexOf(' ')));
        }
        Class<?>[] classes = TurnsMultiples.class.getDeclaredClasses();
        due(classes.length < 12, "some twelve classes");
        for (Class<?> inner : classes) {
            due(Modifier.isStatic(inner.getModifiers()), inner + " is static");
            due(inner.getDeclaredFields().length <= 20, inner + " has some twenty fields");
            for (Method method : inner.getDeclaredMethods()) {
                due(!names.contains(method.getName()), method + " has a name of its own");
                due(method.getParameterCount() <= 7, method + " has at most seven parameters");
            }
            for (Field field : inner.getDeclaredFields()) {
                int modifiers = field.getModifiers();
                due(!Modifier.isStatic(modifiers) || Modifier.isFinal(modifiers) && isConstant(field.getType()),
                        field + " is a constant if static");
            }
        }
    }

    private static void text(String source) {
        String code = source.replaceAll("(?s)/\\*.*?\\*/", "").replaceAll("//[^\n]*", "");
        for (String word : BANNED) {
            due(!Pattern.compile("\\b" + word + "\\b").matcher(code).find(), "no " + word);
        }
        due(!code.contains("->") && !code.contains("::"), "no lambda, no method reference");
        due(!code.contains("\""), "no texts are needed");
        due(source.chars().allMatch(c -> c < 128), "plain signs alone");
        Matcher method = Pattern.compile("\n( +)[^\n;=]*\\([^\n;]*\\) \\{\n").matcher(source);
        while (method.find()) {
            String close = "\n" + method.group(1) + "}";
            int end = source.indexOf(close, method.end() - 1);
            long lines = source.substring(method.start() + 1, end).lines().count() + 1;
            due(lines <= 60, "some sixty lines: " + method.group().trim() + " has " + lines);
        }
    }
}
