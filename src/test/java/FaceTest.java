import java.io.IOException;
import java.lang.reflect.Executable;
import java.lang.reflect.Field;
import java.lang.reflect.Method;
import java.lang.reflect.Modifier;
import java.nio.file.Files;
import java.nio.file.Path;
import java.util.Arrays;
import java.util.Set;
import java.util.TreeSet;
import java.util.regex.Matcher;
import java.util.regex.Pattern;
import java.util.stream.Collectors;

/** The document's face, and the rules of LANGUAGE.md that can be seen from outside or in the text. */
public final class FaceTest {
    private static final String INDEX = "IndexOutOfBoundsException";
    private static final String ARGUMENT = "IllegalArgumentException";
    private static final String STATE = "IllegalStateException";
    private static final String OPERATION = "UnsupportedOperationException";

    public static void main(String[] args) throws IOException {
        face();
        members();
        text(Files.readString(Path.of(args[0])));
        Due.end();
    }

    private static void face() {
        Set<String> due = new TreeSet<>(Set.of(
            one("int make 3", INDEX, ARGUMENT, OPERATION), one("int set 4", INDEX), one("int at 3", INDEX),
            one("int root 3", INDEX), one("int poke 3", INDEX), one("int word 2", INDEX),
            one("int check 1", INDEX), one("int move 2", INDEX, ARGUMENT, STATE), one("int sweep 1", INDEX, STATE),
            one("int dump 1", INDEX, STATE), one("int byteAt 1", INDEX), one("int feed 1", ARGUMENT, OPERATION),
            one("int pass 2", INDEX, ARGUMENT, OPERATION), one("int restore 2", INDEX, ARGUMENT),
            one("boolean same 0", STATE), one("int told 2", INDEX, ARGUMENT, STATE), one("void clear 0")));
        Set<String> got = new TreeSet<>();
        for (Method m : HeapImages.class.getDeclaredMethods()) {
            if (!Modifier.isPrivate(m.getModifiers())) {
                Due.isTrue(m + " is public and of an object", m.getModifiers() == Modifier.PUBLIC);
                String[] thrown = Arrays.stream(m.getExceptionTypes()).map(Class::getSimpleName).toArray(String[]::new);
                got.add(one(m.getReturnType() + " " + m.getName() + " " + m.getParameterCount(), thrown));
                Due.isTrue(m + " takes ints", Arrays.stream(m.getParameterTypes()).allMatch(t -> t == int.class));
            }
        }
        Due.isTrue("face " + got, got.equals(due));
        Due.isTrue("class", HeapImages.class.getModifiers() == (Modifier.PUBLIC | Modifier.FINAL));
    }

    private static String one(String method, String... thrown) {
        return method + " " + Arrays.stream(thrown).sorted().collect(Collectors.toList());
    }

    private static void members() {
        Set<String> constants = new TreeSet<>();
        for (Field f : HeapImages.class.getDeclaredFields()) {
            if (!Modifier.isPrivate(f.getModifiers())) {
                constants.add(f.getName());
                Due.isTrue(f + " is a constant",
                    f.getModifiers() == (Modifier.PUBLIC | Modifier.STATIC | Modifier.FINAL));
            }
            Due.isTrue(f + " is no static state",
                !Modifier.isStatic(f.getModifiers()) || Modifier.isFinal(f.getModifiers()));
        }
        Due.isTrue("constants", constants.equals(Set.of("NONE", "CELLS", "DATA", "LINK")));
        Due.is("constructors", HeapImages.class.getDeclaredConstructors().length, 1);
        Due.is("public constructors", HeapImages.class.getConstructors().length, 1);
        Set<String> names = new TreeSet<>();
        for (Method m : HeapImages.class.getMethods()) {
            names.add(m.getName());
        }
        few(HeapImages.class);
        for (Class<?> c : HeapImages.class.getDeclaredClasses()) {
            Due.isTrue(c + " is static", Modifier.isStatic(c.getModifiers()));
            Due.isTrue(c + " is not public", !Modifier.isPublic(c.getModifiers()));
            few(c);
            for (Method m : c.getDeclaredMethods()) {
                Due.isTrue(m + " has a name of its own", !names.contains(m.getName()));
            }
        }
        for (Method m : HeapImages.class.getDeclaredMethods()) {
            Due.isTrue(m + " has a name of its own",
                Modifier.isPublic(m.getModifiers()) || !names.contains(m.getName()));
        }
        Due.isTrue("classes", HeapImages.class.getDeclaredClasses().length <= 12);
    }

    private static void few(Class<?> c) {
        long fields = Arrays.stream(c.getDeclaredFields()).filter(f -> !Modifier.isStatic(f.getModifiers())).count();
        Due.isTrue(c + " has few fields", fields <= 20);
        for (Executable m : c.getDeclaredMethods()) {
            Due.isTrue(m + " takes few", m.getParameterCount() <= 7);
        }
    }

    private static void text(String source) {
        String code = source.replaceAll("(?s)/\\*.*?\\*/", "").replaceAll("//[^\n]*", "");
        for (String none : new String[] {"->", "::", "@", "\"", "'"}) {
            Due.isFalse("the text has " + none, code.contains(none));
        }
        for (String none : new String[] {"package", "finally", "synchronized", "assert", "try", "catch", "protected",
            "Object", "System.out", "System.exit", "System.currentTimeMillis", "System.nanoTime", "Random",
            "double", "float", "record", "while", "do"}) {
            Due.isFalse("the text has " + none, Pattern.compile("\\b" + none + "\\b").matcher(code).find());
        }
        Matcher imports = Pattern.compile("import ([^;]*);").matcher(code);
        while (imports.find()) {
            Due.isTrue("import of " + imports.group(1), imports.group(1).equals("java.util.Arrays"));
        }
        Matcher thrown = Pattern.compile("throw [^;]*;").matcher(code);
        while (thrown.find()) {
            Due.isTrue(thrown.group(), thrown.group().matches("throw new (IndexOutOfBounds|IllegalArgument"
                + "|IllegalState|UnsupportedOperation)Exception\\(\\);"));
        }
    }
}
