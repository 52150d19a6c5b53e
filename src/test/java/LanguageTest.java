import java.io.IOException;
import java.lang.reflect.Array;
import java.lang.reflect.Constructor;
import java.lang.reflect.Field;
import java.lang.reflect.Method;
import java.lang.reflect.Modifier;
import java.nio.file.Files;
import java.nio.file.Path;
import java.util.Set;
import java.util.TreeSet;
import java.util.regex.Matcher;
import java.util.regex.Pattern;

/** The face, some rules of LANGUAGE.md that can be seen in the text, and the room of objects. */
public final class LanguageTest {
    private static final Path SOURCE = Path.of("src/main/java/CallClusters.java");
    private static final long ROOM = 7300000;
    private static final int CALLS = 512;
    private static final int MOST_CLASSES = 12;
    private static final int MOST_FIELDS = 20;
    private static final int MOST_PARAMETERS = 7;
    private static final Set<String> FACE = Set.of(
        "boolean functions(int)", "boolean size(int,int)", "long call(int,int,int)",
        "boolean page(int)", "long heat(int)", "int caller(int)", "int length()", "int row(int)",
        "long begin(int)", "int clusters()", "int cluster(int)", "long cost(int)");
    private static int wrong = 0;

    public static void main(String[] args) throws Exception {
        face();
        words();
        numbers();
        room();
        System.out.println(wrong == 0 ? "the rules are kept" : wrong + " rules are broken");
        if (wrong != 0) {
            System.exit(1);
        }
    }

    private static void must(boolean holds, String what) {
        if (!holds) {
            wrong++;
            System.out.println("broken: " + what);
        }
    }

    private static void face() {
        Class<?> type = CallClusters.class;
        must(Modifier.isPublic(type.getModifiers()) && Modifier.isFinal(type.getModifiers()),
            "the class is public and final");
        Set<String> seen = new TreeSet<>();
        Set<String> publicNames = new TreeSet<>();
        Set<String> privateNames = new TreeSet<>();
        for (Method method : type.getDeclaredMethods()) {
            if (Modifier.isPrivate(method.getModifiers())) {
                privateNames.add(method.getName());
            } else {
                seen.add(signature(method));
                publicNames.add(method.getName());
                must(Modifier.isPublic(method.getModifiers()), method.getName() + " is public");
            }
        }
        must(seen.equals(FACE), "the face is the document's, not " + seen);
        privateNames.retainAll(publicNames);
        must(privateNames.isEmpty(), "no private method is named as a public one: " + privateNames);
        Constructor<?>[] constructors = type.getDeclaredConstructors();
        must(constructors.length == 1 && constructors[0].getParameterCount() == 0
            && Modifier.isPublic(constructors[0].getModifiers()), "one public constructor");
        for (Field field : type.getDeclaredFields()) {
            must(Modifier.isPrivate(field.getModifiers()), "field " + field.getName() + " is private");
        }
        for (Class<?> inside : type.getDeclaredClasses()) {
            must(Modifier.isStatic(inside.getModifiers()), inside.getName() + " is static");
        }
    }

    private static String signature(Method method) {
        StringBuilder types = new StringBuilder();
        for (Class<?> parameter : method.getParameterTypes()) {
            types.append(types.length() == 0 ? "" : ",").append(parameter.getName());
        }
        return method.getReturnType().getName() + " " + method.getName() + "(" + types + ")";
    }

    private static void words() throws IOException {
        String code = Files.readString(SOURCE).replaceAll("(?s)/\\*.*?\\*/", " ")
            .replaceAll("//[^\n]*", " ");
        Matcher ruledOut = Pattern.compile("\\b(throw|throws|try|catch|synchronized|assert|package"
            + "|hashCode|toString|\\w+Exact)\\b|->|::").matcher(code);
        while (ruledOut.find()) {
            must(false, "not in the language: " + ruledOut.group());
        }
        Matcher imports = Pattern.compile("import\\s+([\\w.* ]+);").matcher(code);
        while (imports.find()) {
            must(Set.of("java.util.Arrays", "java.util.ArrayList", "java.util.List")
                .contains(imports.group(1)), "import of " + imports.group(1));
        }
        Matcher made = Pattern.compile("(?m)^.*\\bnew\\b.*$").matcher(code);
        while (made.find()) {
            must(made.group().trim().startsWith("private final "),
                "made elsewhere than with the object: " + made.group().trim());
        }
    }

    /** Rules 2, 5 and 11: how the classes inside are made, static fields, and how many of each. */
    private static void numbers() {
        Class<?>[] insides = CallClusters.class.getDeclaredClasses();
        must(insides.length + 1 <= MOST_CLASSES, "at most " + MOST_CLASSES + " classes");
        numbersOf(CallClusters.class);
        for (Class<?> inside : insides) {
            must(inside.getDeclaredClasses().length == 0, inside.getName() + " has none inside");
            numbersOf(inside);
        }
    }

    private static void numbersOf(Class<?> type) {
        int fields = 0;
        for (Field field : type.getDeclaredFields()) {
            boolean shared = Modifier.isStatic(field.getModifiers());
            must(!shared || Modifier.isFinal(field.getModifiers()), field.getName() + " is final");
            fields += shared ? 0 : 1;
        }
        must(fields <= MOST_FIELDS, type.getName() + " has at most " + MOST_FIELDS + " fields");
        for (Method method : type.getDeclaredMethods()) {
            must(method.getParameterCount() <= MOST_PARAMETERS,
                method.getName() + " takes at most " + MOST_PARAMETERS + " parameters");
        }
    }

    /** Even a run of nothing but constructors stays in the room. */
    private static void room() throws IllegalAccessException {
        long each = elementsOf(new CallClusters());
        must(each * CALLS <= ROOM, each + " fields and elements an object are too many");
    }

    private static long elementsOf(Object object) throws IllegalAccessException {
        if (object.getClass().isArray()) {
            return Array.getLength(object);
        }
        long sum = 0;
        for (Field field : object.getClass().getDeclaredFields()) {
            if (!Modifier.isStatic(field.getModifiers())) {
                sum++;
                field.setAccessible(true);
                if (!field.getType().isPrimitive()) {
                    sum += elementsOf(field.get(object));
                }
            }
        }
        return sum;
    }
}
