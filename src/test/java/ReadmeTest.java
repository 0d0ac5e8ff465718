import java.io.IOException;
import java.lang.reflect.Method;
import java.lang.reflect.Modifier;
import java.nio.file.Files;
import java.nio.file.Path;
import java.util.regex.Matcher;
import java.util.regex.Pattern;

/** README.md: its calls answer as it says, its text is an ARCHIVE, and no call of the face is left out. */
public final class ReadmeTest {
    private static final TestKit KIT = new TestKit("ReadmeTest");
    private static final Path README = Path.of("README.md");
    private static final Pattern CALL = Pattern.compile("(?m)^hall\\.(\\w+)\\((.*?)\\); *// (-?\\d+)");

    public static void main(String[] args) throws IOException, ReflectiveOperationException {
        String page = Files.readString(README);
        calls(block(page, "java"));
        text(block(page, "text"));
        names(page);
        KIT.end();
    }

    private static String block(String page, String kind) {
        Matcher matcher = Pattern.compile("```" + kind + "\n(.*?)```", Pattern.DOTALL).matcher(page);
        KIT.same("a block of " + kind, matcher.find(), true);
        return matcher.group(1);
    }

    private static Method named(String name) {
        for (Method method : BeardHall.class.getDeclaredMethods()) {
            if (method.getName().equals(name)) {
                return method;
            }
        }
        throw new IllegalStateException("no call " + name);
    }

    private static void calls(String block) throws ReflectiveOperationException {
        BeardHall hall = new BeardHall();
        Matcher matcher = CALL.matcher(block);
        int made = 0;
        while (matcher.find()) {
            Object answer = named(matcher.group(1)).invoke(hall, numbers(matcher.group(2)));
            KIT.same(matcher.group(), (Integer) answer, Integer.parseInt(matcher.group(3)));
            made++;
        }
        KIT.same("lines but the first are calls", made, block.split("\n").length - 1);
    }

    private static Object[] numbers(String list) {
        String[] told = list.isEmpty() ? new String[0] : list.split(", ");
        Object[] numbers = new Object[told.length];
        for (int i = 0; i < told.length; i++) {
            boolean flag = told[i].equals("true") || told[i].equals("false");
            numbers[i] = flag ? (Object) Boolean.valueOf(told[i]) : (Object) Integer.decode(told[i]);
        }
        return numbers;
    }

    /** What stands behind a line's last ';' and blanks tells of it and is no part of the text. */
    private static void text(String block) {
        StringBuilder text = new StringBuilder();
        for (String line : block.split("\n")) {
            text.append(line.replaceFirst(";   .*", ";\n"));
        }
        BeardHall hall = KIT.hall(text.toString());
        KIT.same("MONKS", hall.count(0), 2);
        KIT.same("ENTRIES", hall.count(1), 2);
        KIT.same("the clerk holds the copy", hall.holders(0), 3);
        KIT.same("by the rule", hall.may(0, 1), true);
    }

    private static void names(String page) {
        for (Method method : BeardHall.class.getDeclaredMethods()) {
            if (Modifier.isPublic(method.getModifiers())) {
                KIT.same("README names " + method.getName(), Pattern.compile("`" + method.getName() + "[`(]").matcher(page).find(), true);
            }
        }
    }
}
