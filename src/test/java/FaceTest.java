import java.io.IOException;
import java.lang.reflect.Constructor;
import java.lang.reflect.Field;
import java.lang.reflect.InvocationTargetException;
import java.lang.reflect.Method;
import java.lang.reflect.Modifier;
import java.nio.file.Files;
import java.nio.file.Path;
import java.util.ArrayList;
import java.util.Arrays;
import java.util.HashSet;
import java.util.List;
import java.util.Set;
import java.util.TreeSet;
import java.util.regex.Matcher;
import java.util.regex.Pattern;

/** The members of the class are those of the document, and a call throws only what it may throw. */
public final class FaceTest {
    private static final String SOURCE = "src/main/java/CandleLoom.java";
    private static final String DOCUMENT = "../shared/DOC.md";
    private static final Set<String> IMPORTS = Set.of("java.util.NoSuchElementException", "java.util.ArrayList",
            "java.util.List", "java.util.Arrays", "java.util.Iterator");
    private static final Set<String> MACHINE = Set.of("ArrayIndexOutOfBoundsException", "NullPointerException",
            "ClassCastException", "NegativeArraySizeException", "ArrayStoreException", "RuntimeException",
            "Exception", "Throwable");
    private static final int[] WILD = {Integer.MIN_VALUE, -65536, -17, -1, 0, 1, 2, 7, 8, 10, 15, 16, 31, 32, 39,
            40, 41, 63, 64, 99, 100, 65535, 65536, Integer.MAX_VALUE - 1, Integer.MAX_VALUE};
    private static final char[] SIGNS = {'l', 'r', 'L', 0, ' ', ';', '0', 'w', 255, 256, 0xffff};

    public static void main(String[] args) throws Exception {
        Check.watch();
        membersAreThoseOfTheDocument();
        nestedClassesAreHidden();
        privateNamesDiffer();
        wordsOutsideTheLanguage();
        catchesOfTheMachine();
        sizes();
        wildCalls();
        Check.end();
    }

    private static String shortNames(String text) {
        return text.replace("java.lang.", "").replace("java.util.", "");
    }

    private static void membersAreThoseOfTheDocument() throws IOException {
        Set<String> due = new TreeSet<>();
        for (String line : Files.readAllLines(Path.of(DOCUMENT))) {
            String text = line.trim();
            if (text.startsWith("public ") && text.contains("(") && text.endsWith(";")) {
                due.add(text.substring(0, text.length() - 1)
                        .replaceAll("(int|char) [a-z]+(?=[,)])", "$1").replace(", ", ","));
            }
        }
        Check.same("members of the document", 53, due.size());
        Set<String> got = new TreeSet<>();
        for (Method method : CandleLoom.class.getDeclaredMethods()) {
            if (!Modifier.isPrivate(method.getModifiers())) {
                got.add(shortNames(method.toString()).replace("CandleLoom.", ""));
            }
        }
        for (Constructor<?> constructor : CandleLoom.class.getDeclaredConstructors()) {
            got.add(shortNames(constructor.toString()));
        }
        Check.same("members", due, got);
        for (Field field : CandleLoom.class.getDeclaredFields()) {
            Check.yes("private: " + field, Modifier.isPrivate(field.getModifiers()));
            if (Modifier.isStatic(field.getModifiers())) {
                Check.yes("final: " + field, Modifier.isFinal(field.getModifiers()));
            }
        }
        Check.same("the class", Modifier.PUBLIC | Modifier.FINAL, CandleLoom.class.getModifiers());
    }

    private static void nestedClassesAreHidden() {
        for (Class<?> inner : CandleLoom.class.getDeclaredClasses()) {
            int modifiers = inner.getModifiers();
            Check.no("public: " + inner, Modifier.isPublic(modifiers) || Modifier.isProtected(modifiers));
            Check.yes("static: " + inner, Modifier.isStatic(modifiers));
        }
    }

    private static void privateNamesDiffer() {
        Set<String> names = new HashSet<>();
        for (Method method : CandleLoom.class.getDeclaredMethods()) {
            if (Modifier.isPublic(method.getModifiers())) {
                names.add(method.getName());
            }
        }
        for (Class<?> inner : CandleLoom.class.getDeclaredClasses()) {
            for (Method method : inner.getDeclaredMethods()) {
                Check.no("a name of the face: " + method, names.contains(method.getName()));
            }
        }
        for (Method method : CandleLoom.class.getDeclaredMethods()) {
            boolean hidden = Modifier.isPrivate(method.getModifiers());
            Check.no("a name of the face: " + method, hidden && names.contains(method.getName()));
        }
    }

    private static String code() throws IOException {
        return Files.readString(Path.of(SOURCE)).replaceAll("(?s)/\\*.*?\\*/|//[^\n]*", "");
    }

    private static void wordsOutsideTheLanguage() throws IOException {
        String code = code().replaceAll("(case [^;{}]*?|default) ->", "$1:");
        List<String> words = List.of("\\bfinally\\b", "\\bsynchronized\\b", "\\bassert\\b", "->", "::",
                "\\bSystem\\.(?!arraycopy)", "\\bRandom\\b", "\\bThread\\b", "Exact\\b", "\\bhashCode\\b",
                "\\bString toString\\b", "\\bgetMessage\\b", "\\bpackage\\b", "\\bprotected\\b");
        for (String word : words) {
            Check.no("found " + word, Pattern.compile(word).matcher(code).find());
        }
        Matcher imports = Pattern.compile("\\bimport ([^;]+);").matcher(code);
        while (imports.find()) {
            Check.yes("import " + imports.group(1), IMPORTS.contains(imports.group(1)));
        }
    }

    /** No call is answered by catching what the machine throws. */
    private static void catchesOfTheMachine() throws IOException {
        Matcher catches = Pattern.compile("\\bcatch\\s*\\(([^)]*)\\)").matcher(code());
        while (catches.find()) {
            for (String name : catches.group(1).replace("final ", "").split("[ |]+")) {
                Check.no("caught: " + name, MACHINE.contains(name));
            }
        }
    }

    private static void sizes() {
        Class<?>[] inner = CandleLoom.class.getDeclaredClasses();
        Check.yes("classes: " + inner.length, inner.length <= 11);
        List<Class<?>> all = new ArrayList<>(List.of(inner));
        all.add(CandleLoom.class);
        for (Class<?> one : all) {
            long fields = Arrays.stream(one.getDeclaredFields())
                    .filter(field -> !Modifier.isStatic(field.getModifiers())).count();
            Check.yes("fields of " + one + ": " + fields, fields <= 20);
            for (Method method : one.getDeclaredMethods()) {
                Check.yes("parameters of " + method, method.getParameterCount() <= 7);
            }
        }
    }

    private static final class Wild {
        private long seed;

        int below(int bound) {
            seed = seed * 6364136223846793005L + 1442695040888963407L;
            return (int) ((seed >>> 33) % bound);
        }

        Object argument(Class<?> type) {
            if (type == char.class) {
                return SIGNS[below(SIGNS.length)];
            }
            return below(2) == 0 ? WILD[below(WILD.length)] : below(10);
        }
    }

    private static CandleLoom filled(int kind) {
        CandleLoom loom = kind == 0 ? new CandleLoom() : Check.lit(1, 32769, 99, 7, 65535, 20, 0, 6, 50);
        for (int i = 1; i < kind; i++) {
            loom.weave(10);
            loom.knot(i, i);
        }
        return loom;
    }

    private static void wildCalls() throws IllegalAccessException {
        Method[] methods = Arrays.stream(CandleLoom.class.getDeclaredMethods())
                .filter(method -> Modifier.isPublic(method.getModifiers()))
                .sorted((a, b) -> a.toString().compareTo(b.toString())).toArray(Method[]::new);
        Wild wild = new Wild();
        for (int run = 0; run < 400; run++) {
            CandleLoom loom = filled(run % 5);
            for (int call = 0; call < 480; call++) {
                Method method = methods[wild.below(methods.length)];
                Object[] given = Arrays.stream(method.getParameterTypes()).map(wild::argument).toArray();
                try {
                    method.invoke(loom, given);
                } catch (InvocationTargetException e) {
                    checkThrown(method, given, e.getCause());
                }
            }
        }
    }

    /** The machine throws other classes, or throws from the library's own classes, or at a division. */
    private static void checkThrown(Method method, Object[] given, Throwable thrown) {
        String what = method.getName() + Arrays.toString(given) + " threw " + thrown;
        Check.yes(what, Arrays.asList(method.getExceptionTypes()).contains(thrown.getClass()));
        StackTraceElement[] trace = thrown.getStackTrace();
        Check.yes(what + " not by itself", trace.length > 0 && trace[0].getClassName().startsWith("CandleLoom"));
        Check.no(what + " at a division", "/ by zero".equals(thrown.getMessage()));
    }
}
