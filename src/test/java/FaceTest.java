import java.io.IOException;
import java.lang.reflect.Constructor;
import java.lang.reflect.Field;
import java.lang.reflect.Method;
import java.lang.reflect.Modifier;
import java.nio.file.Files;
import java.nio.file.Path;
import java.util.Arrays;
import java.util.List;
import java.util.TreeSet;

/** The face as the document writes it, and those of LANGUAGE.md's rules that can be read off the source. */
public final class FaceTest {
    private static final TestKit KIT = new TestKit("FaceTest");
    private static final Path SOURCE = Path.of("src/main/java/BeardHall.java");
    private static final String INTS = "feed/5 archive/1 fault/0 count/1 monk/2 entry/2 holders/1 years/1 braid/4 copy/2 shave/2 moths/3 undo/0"
        + " law/1 rivals/0 owed/1 cover/0 alone/0 barbers/1 shortest/1 amnesty/3 week/2 oldest/2 believed/1 until/1 doomed/1"
        + " safest/0 heir/1 lice/1 see/2 ate/2 forget/0 game/1 season/3";
    private static final String BOOLEANS = "may/2 knot/1 comb/1 die/1 restore/0";
    private static final String NO_SUCH = "count monk entry holders may braid copy knot comb shave moths die law owed shortest amnesty week"
        + " oldest believed until heir lice see ate game season";
    private static final String ILLEGAL = "archive barbers amnesty doomed season";

    public static void main(String[] args) throws IOException {
        members();
        signatures();
        words();
        sizes();
        KIT.end();
    }

    private static void members() {
        KIT.same("public and final", BeardHall.class.getModifiers() == (Modifier.PUBLIC | Modifier.FINAL), true);
        for (Field field : BeardHall.class.getDeclaredFields()) {
            boolean ofFace = field.getName().equals("NONE");
            KIT.same("field " + field, Modifier.isPrivate(field.getModifiers()), !ofFace);
            KIT.same("static but final " + field, Modifier.isStatic(field.getModifiers()) && !Modifier.isFinal(field.getModifiers()), false);
        }
        Constructor<?>[] made = BeardHall.class.getDeclaredConstructors();
        KIT.same("constructors", made.length, 1);
        KIT.same("of no arguments", made[0].getParameterCount(), 0);
        KIT.same("public", Modifier.isPublic(made[0].getModifiers()), true);
        for (Class<?> inside : BeardHall.class.getDeclaredClasses()) {
            KIT.same("static " + inside, Modifier.isStatic(inside.getModifiers()), true);
            KIT.same("not public " + inside, Modifier.isPublic(inside.getModifiers()) || Modifier.isProtected(inside.getModifiers()), false);
            KIT.same("some twenty fields of " + inside, fieldsOf(inside) <= 20, true);
        }
        KIT.same("some twenty fields", fieldsOf(BeardHall.class) <= 20, true);
        KIT.same("some twelve classes", BeardHall.class.getDeclaredClasses().length <= 11, true);
    }

    private static int fieldsOf(Class<?> one) {
        return (int) Arrays.stream(one.getDeclaredFields()).filter(f -> !Modifier.isStatic(f.getModifiers())).count();
    }

    private static String typeOf(String signature) {
        if (Arrays.asList(INTS.split(" ")).contains(signature)) {
            return "int";
        }
        return Arrays.asList(BOOLEANS.split(" ")).contains(signature) ? "boolean" : "void";
    }

    private static void signatures() {
        TreeSet<String> names = new TreeSet<>();
        int open = 0;
        for (Method method : BeardHall.class.getDeclaredMethods()) {
            String name = method.getName();
            if (Modifier.isPrivate(method.getModifiers())) {
                continue;
            }
            open++;
            names.add(name);
            KIT.same("public " + method, Modifier.isPublic(method.getModifiers()), true);
            KIT.same("type of " + method, method.getReturnType().getName().equals(typeOf(name + "/" + method.getParameterCount())), true);
            for (int i = 0; i < method.getParameterCount(); i++) {
                boolean flag = name.equals("see") && i == 1;
                KIT.same("parameter of " + method, method.getParameterTypes()[i] == (flag ? boolean.class : int.class), true);
            }
            String thrown = Arrays.toString(method.getExceptionTypes());
            KIT.same("throws of " + method, thrown.contains("NoSuchElement"), Arrays.asList(NO_SUCH.split(" ")).contains(name));
            KIT.same("throws of " + method, thrown.contains("IllegalArgument"), Arrays.asList(ILLEGAL.split(" ")).contains(name));
        }
        KIT.same("methods of the face", open, 40);
        KIT.same("names of the face", names.size(), 40);
        for (Class<?> inside : BeardHall.class.getDeclaredClasses()) {
            hiddenNames(inside, names);
        }
        hiddenNames(BeardHall.class, names);
    }

    private static void hiddenNames(Class<?> one, TreeSet<String> names) {
        for (Method method : one.getDeclaredMethods()) {
            KIT.same("at most seven parameters " + method, method.getParameterCount() <= 7, true);
            if (Modifier.isPrivate(method.getModifiers())) {
                KIT.same("a private name of its own " + method, names.contains(method.getName()), false);
            }
        }
    }

    private static void words() throws IOException {
        String source = Files.readString(SOURCE);
        String[] none = {"catch", "finally", "synchronized", "assert", "->", "::", "Exact", "System.out", "System.exit", "HashMap",
            "package ", "getMessage", "while (true)", "for (;;)", "Random", "String.valueOf", "String.format", "@", "var "};
        for (String word : none) {
            KIT.same("no " + word, source.contains(word), false);
        }
        for (String line : source.split("\n")) {
            if (line.startsWith("import ")) {
                KIT.same(line, line.equals("import java.util.Arrays;") || line.equals("import java.util.NoSuchElementException;"), true);
            }
            if (line.contains("\t") || line.length() > 160) {
                KIT.same("a plain line: " + line, 1, 0);
            }
        }
        KIT.same("plain signs", source.chars().allMatch(c -> c == 10 || c >= 32 && c < 127), true);
    }

    /** Methods stay short: from a line that opens one to the brace that closes it, some sixty lines. */
    private static void sizes() throws IOException {
        List<String> lines = Files.readAllLines(SOURCE);
        for (int i = 0; i < lines.size(); i++) {
            String line = lines.get(i);
            String indent = line.substring(0, line.length() - line.stripLeading().length());
            if (line.endsWith("{") && line.contains("(") && (indent.length() == 4 || indent.length() == 8) && !line.contains("class ")) {
                int end = i;
                while (end < lines.size() && !lines.get(end).equals(indent + "}")) {
                    end++;
                }
                KIT.same("a short method: " + line.strip(), end - i <= 60, true);
            }
        }
    }
}
