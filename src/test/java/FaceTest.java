import java.io.IOException;
import java.lang.reflect.Constructor;
import java.lang.reflect.Field;
import java.lang.reflect.Method;
import java.lang.reflect.Modifier;
import java.nio.file.Files;
import java.nio.file.Path;
import java.util.ArrayList;
import java.util.Arrays;
import java.util.Collections;
import java.util.HashSet;
import java.util.List;
import java.util.Set;

/** The document's face and nothing beside it, and of LANGUAGE.md what can be seen from outside. */
public final class FaceTest {
    private static final String[] FACE = {
        "int feed(int,int,int,int,int)", "boolean end(int)", "int kitchen()", "int fault()",
        "int slice(int,int) throws", "int guest(int,int) throws", "int sort(int,int) throws", "int plan()", "int judge()",
        "int why()", "int go(int,int)", "int left(int,int) throws", "int ends()", "int done()", "int on(int)", "int write()",
        "int byteAt(int)", "int several()", "int one()", "int masters()", "int cook(int)", "int best()", "int bound(int)",
        "int add(int,int,int,int,int)", "boolean drop(int)", "boolean later(int,int)", "int early()", "int undo()",
        "int idle(int)", "int forgotten()", "int fewest(int,int,int)", "int alike(int,int)", "int alikeAt(int,int,int,int)",
        "int served(int)", "int servedAt(int)", "long mean(int,int) throws", "int hotel(int,int,int)", "int pans(int)",
        "long brown(int,int)", "int morning(int)", "int mornings(int,int)", "int sentence()", "int said(int)",
        "boolean image(int)", "boolean restore(int)", "int count(int)"};

    private FaceTest() { }

    public static void main(String[] args) throws IOException {
        face();
        members();
        inside();
        source();
        shortMethods();
        Check.close("FaceTest");
    }

    private static void face() {
        List<String> found = new ArrayList<>();
        for (Method m : PanSlices.class.getDeclaredMethods()) {
            if (Modifier.isPublic(m.getModifiers())) {
                StringBuilder t = new StringBuilder(m.getReturnType() + " " + m.getName() + "(");
                for (int i = 0; i < m.getParameterCount(); i++) {
                    t.append(i == 0 ? "" : ",").append(m.getParameterTypes()[i]);
                }
                found.add(t + ")" + (m.getExceptionTypes().length > 0 ? " throws" : ""));
            }
        }
        List<String> due = new ArrayList<>(Arrays.asList(FACE));
        Collections.sort(found);
        Collections.sort(due);
        Check.dueText("methods", found.toString(), due.toString());
        Check.due("class", PanSlices.class.getModifiers(), Modifier.PUBLIC | Modifier.FINAL);
    }

    private static void members() {
        for (Method m : PanSlices.class.getDeclaredMethods()) {
            int how = m.getModifiers();
            Check.due(m + " is public or private", Modifier.isPublic(how) || Modifier.isPrivate(how), true);
            Check.due(m + " is of the object", !Modifier.isPublic(how) || !Modifier.isStatic(how), true);
        }
        for (Field f : PanSlices.class.getDeclaredFields()) {
            boolean constant = f.getName().equals("NONE");
            Check.due(f + " is private", Modifier.isPrivate(f.getModifiers()), !constant);
        }
        Constructor<?>[] made = PanSlices.class.getDeclaredConstructors();
        Check.due("constructors", made.length, 1);
        Check.due("it is public", Modifier.isPublic(made[0].getModifiers()), true);
        Check.due("it takes nothing", made[0].getParameterCount(), 0);
    }

    private static void inside() {
        Set<String> names = new HashSet<>();
        for (Method m : PanSlices.class.getDeclaredMethods()) {
            if (Modifier.isPublic(m.getModifiers())) {
                names.add(m.getName());
            }
        }
        List<Class<?>> all = new ArrayList<>(Arrays.asList(PanSlices.class.getDeclaredClasses()));
        Check.due("at most twelve classes", all.size() < 12, true);
        for (Class<?> c : all) {
            Check.due(c + " is static", Modifier.isStatic(c.getModifiers()), true);
            Check.due(c + " is not public", Modifier.isPublic(c.getModifiers()), false);
        }
        all.add(PanSlices.class);
        for (Class<?> c : all) {
            int own = 0;
            for (Field f : c.getDeclaredFields()) {
                boolean still = Modifier.isStatic(f.getModifiers());
                own += still ? 0 : 1;
                Check.due(f + " is final", !still || Modifier.isFinal(f.getModifiers()), true);
            }
            Check.due(c + " has few fields", own <= 20, true);
            for (Method m : c.getDeclaredMethods()) {
                boolean twice = names.contains(m.getName()) && !(c == PanSlices.class && Modifier.isPublic(m.getModifiers()));
                Check.due(m + " bears a public name", twice, false);
                Check.due(m + " takes at most seven", m.getParameterCount() <= 7, true);
            }
        }
    }

    private static void source() throws IOException {
        String text = Files.readString(Path.of("src/main/java/PanSlices.java"));
        for (String line : text.split("\n")) {
            if (line.startsWith("import ")) {
                boolean fine = line.equals("import java.util.Arrays;") || line.equals("import java.util.NoSuchElementException;");
                Check.due(line, fine, true);
            }
        }
        String code = text.replaceAll("(?s)/\\*.*?\\*/", "").replaceAll("//[^\n]*", "");
        String[] never = {"->", "::", "\\btry\\b", "\\bcatch\\b", "\\bfinally\\b", "\\bsynchronized\\b", "\\bassert\\b",
            "\\bpackage\\b", "\\binstanceof\\b", "Exact\\b", "\\bSystem\\.(?!arraycopy)", "\\bThread\\b", "\\bstatic \\{",
            "\\bdouble\\b", "\\bfloat\\b", "\" \\+", "\\+ \""};
        for (String word : never) {
            Check.due("the class has " + word, java.util.regex.Pattern.compile(word).matcher(code).find(), false);
        }
        for (int i = 0; i < text.length(); i++) {
            if (text.charAt(i) > 126) {
                Check.due("byte " + i + " of the source", text.charAt(i), '?');
            }
        }
    }

    /** Rule 11: some sixty lines a method. One begins with its head's bracket and ends with a bracket as far in. */
    private static void shortMethods() throws IOException {
        List<String> lines = Files.readAllLines(Path.of("src/main/java/PanSlices.java"));
        int methods = 0;
        for (int from = 0; from < lines.size(); from++) {
            if (lines.get(from).matches(" {4}( {4})?[A-Za-z].*\\) (throws \\w+ )?\\{")) {
                String end = lines.get(from).replaceAll("\\S.*", "}");
                int behind = from;
                while (behind < lines.size() && !lines.get(behind).equals(end)) {
                    behind++;
                }
                methods++;
                Check.due("lines of " + lines.get(from).trim() + " are few", behind - from < 60, true);
            }
        }
        Check.due("methods are found", methods > 100, true);
    }
}
