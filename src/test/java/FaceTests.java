import java.io.IOException;
import java.lang.reflect.Constructor;
import java.lang.reflect.Field;
import java.lang.reflect.Method;
import java.lang.reflect.Modifier;
import java.nio.file.Files;
import java.nio.file.Path;
import java.util.Arrays;
import java.util.Set;
import java.util.TreeSet;
import java.util.regex.Matcher;
import java.util.regex.Pattern;
import java.util.stream.Collectors;

/** The public face as the document has it, and the rules of LANGUAGE.md that can be read off the class and its source. */
public final class FaceTests {
    private static final String I = "IndexOutOfBoundsException", A = "IllegalArgumentException", S = "IllegalStateException";

    private static final Set<String> METHODS = new TreeSet<>(Arrays.asList(
            "int ground(int, int, int) " + I + " " + A,
            "int stone(int, int, int) " + I + " " + A + " " + S,
            "int draw(int) " + A,
            "int rain(int) " + A + " " + S,
            "int flood(int, int, int, int, int) " + I + " " + A + " " + S,
            "int soften(int) " + A + " " + S,
            "int eye(int) " + A + " " + S,
            "int anchor(long, long) " + A + " " + S,
            "int count(int, int, int, int, int, int) " + I + " " + A,
            "long age(int, int, int, int, int) " + I + " " + A + " " + S,
            "int whyNot(int, int, int, int, int) " + I + " " + A,
            "int craters()",
            "int about(int, int) " + I + " " + A,
            "int depthAnew(int) " + I,
            "int top(int, int) " + I,
            "int topAnew(int, int) " + I));

    private static int wrong = 0;

    private static void must(boolean holds, String what) {
        if (!holds) {
            wrong++;
            System.out.println("not so: " + what);
        }
    }

    private static String told(Method method) {
        String parameters = Arrays.stream(method.getParameterTypes()).map(Class::getSimpleName)
                .collect(Collectors.joining(", "));
        String thrown = Arrays.stream(method.getExceptionTypes()).map(e -> " " + e.getSimpleName())
                .collect(Collectors.joining());
        return method.getReturnType().getSimpleName() + " " + method.getName() + "(" + parameters + ")" + thrown;
    }

    private static void face() {
        Class<?> face = Craterclock.class;
        must(face.getPackageName().isEmpty(), "no package");
        must(Modifier.isPublic(face.getModifiers()) && Modifier.isFinal(face.getModifiers()), "public and final");
        Constructor<?>[] constructors = face.getDeclaredConstructors();
        must(constructors.length == 1 && Modifier.isPublic(constructors[0].getModifiers())
                && constructors[0].getParameterCount() == 0, "one public constructor without parameters");
        Set<String> methods = new TreeSet<>();
        for (Method method : face.getDeclaredMethods()) {
            if (!Modifier.isPrivate(method.getModifiers())) {
                methods.add(told(method));
                must(Modifier.isPublic(method.getModifiers()) && !Modifier.isStatic(method.getModifiers()),
                        method + " is a public method of objects");
            }
        }
        must(methods.equals(METHODS), "the methods are " + METHODS + " and not " + methods);
        Set<String> fields = new TreeSet<>();
        for (Field field : face.getDeclaredFields()) {
            if (!Modifier.isPrivate(field.getModifiers())) {
                fields.add(Modifier.toString(field.getModifiers()) + " " + field.getType() + " " + field.getName());
            }
        }
        must(fields.equals(new TreeSet<>(Arrays.asList("public static final int NONE", "public static final int ROCK",
                "public static final int SAND", "public static final int ICE"))), "the constants are not " + fields);
    }

    private static void inside(Class<?> owner, Set<String> names) {
        for (Field field : owner.getDeclaredFields()) {
            int modifiers = field.getModifiers();
            must(!Modifier.isStatic(modifiers) || Modifier.isFinal(modifiers), field + " is final, as it is static");
        }
        for (Method method : owner.getDeclaredMethods()) {
            must(method.getParameterCount() <= 7, method + " takes at most seven parameters");
            must(owner == Craterclock.class && Modifier.isPublic(method.getModifiers())
                    || !names.contains(method.getName()), method + " bears no name of the face");
        }
        for (Class<?> nested : owner.getDeclaredClasses()) {
            must(Modifier.isStatic(nested.getModifiers()) && !Modifier.isPublic(nested.getModifiers()),
                    nested + " is static and not public");
            inside(nested, names);
        }
    }

    private static void source() throws IOException {
        String text = Files.readString(Path.of("src/main/java/Craterclock.java"));
        must(text.chars().allMatch(sign -> sign == '\n' || sign >= 32 && sign < 127), "plain signs alone");
        String code = text.replaceAll("(?s)/\\*.*?\\*/", "").replaceAll("//[^\n]*", "");
        Matcher imported = Pattern.compile("import ([^;]+);").matcher(code);
        while (imported.find()) {
            must(Set.of("java.util.ArrayList", "java.util.List").contains(imported.group(1)), imported.group());
        }
        String[] barred = {"->", "::", "@", "\\bpackage\\b", "\\bfinally\\b", "\\bcatch\\b", "\\bsynchronized\\b", "\\bassert\\b",
            "\\bSystem\\b", "\\bRandom\\b", "Exact\\b", "\\binstanceof\\b", "\\bstatic \\{", "\\bfloat\\b", "\\bdouble\\b"};
        for (String word : barred) {
            must(!Pattern.compile(word).matcher(code).find(), "without " + word);
        }
        Matcher thrown = Pattern.compile("throw ([^;]*);").matcher(code);
        while (thrown.find()) {
            must(thrown.group(1).matches("new (" + I + "|" + A + "|" + S + ")\\((\"[^\"]*\")?\\)"), thrown.group());
        }
    }

    public static void main(String[] args) throws IOException {
        face();
        Set<String> names = Arrays.stream(Craterclock.class.getDeclaredMethods())
                .filter(method -> Modifier.isPublic(method.getModifiers())).map(Method::getName)
                .collect(Collectors.toCollection(TreeSet::new));
        inside(Craterclock.class, names);
        source();
        System.out.println(wrong == 0 ? "the face and the source are as due" : wrong + " things are not as due");
        if (wrong != 0) {
            System.exit(1);
        }
    }
}
