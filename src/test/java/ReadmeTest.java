import java.lang.reflect.Method;
import java.nio.file.Files;
import java.nio.file.Path;
import java.util.regex.Matcher;
import java.util.regex.Pattern;

/** The calls that README.md shows, one behind the other, answer what it says; and it names each call of the face. */
public final class ReadmeTest {
    private static final Pattern CALL = Pattern.compile("x\\.(\\w+)\\((.*?)\\);\\s*(?://\\s*(-?\\d+))?.*");

    private ReadmeTest() { }

    public static void main(String[] args) throws Exception {
        String text = Files.readString(Path.of("README.md"));
        calls(text);
        names(text);
        Check.close("ReadmeTest");
    }

    private static void calls(String text) throws ReflectiveOperationException {
        PanSlices x = new PanSlices();
        int told = 0;
        for (String line : text.split("\n")) {
            Matcher m = CALL.matcher(line);
            if (m.matches()) {
                Object answer = call(x, m.group(1), m.group(2));
                if (m.group(3) != null) {
                    told++;
                    Check.dueText(line, String.valueOf(answer), m.group(3));
                }
            }
        }
        Check.due("answers that README.md tells", told >= 8, true);
    }

    private static Object call(PanSlices x, String name, String numbers) throws ReflectiveOperationException {
        String[] parts = numbers.isBlank() ? new String[0] : numbers.split(",");
        for (Method m : PanSlices.class.getMethods()) {
            if (m.getName().equals(name) && m.getParameterCount() == parts.length) {
                Object[] given = new Object[parts.length];
                for (int i = 0; i < parts.length; i++) {
                    given[i] = Integer.decode(parts[i].trim());
                }
                return m.invoke(x, given);
            }
        }
        return "no such call";
    }

    private static void names(String text) {
        for (Method m : PanSlices.class.getDeclaredMethods()) {
            if (java.lang.reflect.Modifier.isPublic(m.getModifiers())) {
                Check.due("README.md names " + m.getName(), text.contains("`" + m.getName() + "`"), true);
            }
        }
    }
}
