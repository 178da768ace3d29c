import java.io.IOException;
import java.lang.reflect.Constructor;
import java.lang.reflect.Field;
import java.lang.reflect.Method;
import java.lang.reflect.Modifier;
import java.nio.file.Files;
import java.nio.file.Path;
import java.util.Arrays;
import java.util.List;
import java.util.Set;
import java.util.TreeSet;
import java.util.regex.Matcher;
import java.util.regex.Pattern;

/** The public face as the document writes it, and those rules of LANGUAGE.md that a text can be searched for. */
public final class FaceTest {
    private static final Path SOURCE = Path.of("src/main/java/SlotCoins.java");
    private static final Path DOCUMENT = Path.of("../shared/DOC.md");

    public static void main(String[] args) throws IOException {
        face();
        hidden();
        nested();
        sections(Files.readString(DOCUMENT), Files.readString(SOURCE));
        words(Files.readString(SOURCE));
        sizes(Files.readAllLines(SOURCE));
        Check.end();
    }

    private static String written(Method m) {
        StringBuilder b = new StringBuilder(m.getReturnType().getSimpleName()).append(' ').append(m.getName()).append('(');
        for (Class<?> type : m.getParameterTypes()) {
            b.append(type.getSimpleName()).append(' ');
        }
        b.append(')');
        for (Class<?> type : m.getExceptionTypes()) {
            b.append(' ').append(type.getSimpleName());
        }
        return b.toString();
    }

    /** Each line of the document's code block, less the names of parameters, against what was compiled. */
    private static void face() throws IOException {
        Set<String> due = new TreeSet<>();
        Pattern line = Pattern.compile("^    public (int|long|boolean|void) (\\w+)\\((.*)\\)( throws .*)?;$", Pattern.MULTILINE);
        Matcher m = line.matcher(Files.readString(DOCUMENT));
        while (m.find()) {
            String thrown = m.group(4) == null ? "" : m.group(4).replace(" throws", "").replace(",", "");
            due.add(m.group(1) + " " + m.group(2) + "(" + m.group(3).replaceAll(" \\w+(, |$)", " ") + ")" + thrown);
        }
        Set<String> got = new TreeSet<>();
        for (Method method : SlotCoins.class.getDeclaredMethods()) {
            if (Modifier.isPublic(method.getModifiers())) {
                got.add(written(method));
            }
        }
        Check.due("methods of the document", due.size(), 44);
        Check.due("the face " + got + " as in the document " + due, got.equals(due), true);
        Check.due("final", Modifier.isFinal(SlotCoins.class.getModifiers()), true);
    }

    /** The calls stand in the document's order, each under the line that the interface says ahead of it. */
    private static void sections(String document, String source) {
        Matcher m = Pattern.compile("^Ahead of the calls (.*) the interface says: (---- .*)\\.$", Pattern.MULTILINE).matcher(document);
        int at = 0;
        int calls = 0;
        while (m.find()) {
            int heading = source.indexOf("    // " + m.group(2) + "\n", at);
            Check.due(m.group(2) + " stands in its place", heading > at, true);
            at = Math.max(at, heading);
            for (String call : m.group(1).replace("`", "").split(", ")) {
                Matcher face = Pattern.compile("^    public \\w+ " + call + "\\(", Pattern.MULTILINE).matcher(source);
                boolean follows = face.find(at);
                Check.due(call + " stands in its place", follows, true);
                at = follows ? face.start() : at;
                calls++;
            }
        }
        Check.due("calls under headings", calls, 44);
    }

    private static void hidden() {
        Set<String> names = new TreeSet<>();
        for (Method m : SlotCoins.class.getDeclaredMethods()) {
            if (Modifier.isPublic(m.getModifiers())) {
                Check.due(m.getName() + " stands once", names.add(m.getName()), true);
            } else {
                Check.due(m.getName() + " is private", Modifier.isPrivate(m.getModifiers()), true);
            }
        }
        for (Class<?> c : SlotCoins.class.getDeclaredClasses()) {
            for (Method m : c.getDeclaredMethods()) {
                Check.due(c.getSimpleName() + "." + m.getName() + " bears a name of its own", names.contains(m.getName()), false);
                Check.due(m.getName() + " takes at most seven", m.getParameterCount() <= 7, true);
            }
        }
        for (Field f : SlotCoins.class.getDeclaredFields()) {
            boolean seen = f.getName().equals("NONE") && Modifier.isPublic(f.getModifiers());
            Check.due(f.getName() + " is private", seen || Modifier.isPrivate(f.getModifiers()), true);
        }
        Constructor<?>[] made = SlotCoins.class.getDeclaredConstructors();
        Check.due("one constructor", made.length, 1);
        Check.due("it takes nothing", made[0].getParameterCount(), 0);
        Check.due("it is public", Modifier.isPublic(made[0].getModifiers()), true);
    }

    private static void nested() {
        Class<?>[] inside = SlotCoins.class.getDeclaredClasses();
        Check.due("at most twelve classes", inside.length + 1 <= 12, true);
        for (Class<?> c : inside) {
            Check.due(c + " is private and static", Modifier.isPrivate(c.getModifiers()) && Modifier.isStatic(c.getModifiers()), true);
            long fields = Arrays.stream(c.getDeclaredFields()).filter(f -> !Modifier.isStatic(f.getModifiers())).count();
            Check.due(c + " has at most twenty fields", fields <= 20, true);
            for (Field f : c.getDeclaredFields()) {
                int how = f.getModifiers();
                Check.due(f + ": what is static is final", !Modifier.isStatic(how) || Modifier.isFinal(how), true);
            }
        }
    }

    private static void words(String source) {
        String bare = source.replaceAll("(?s)/\\*.*?\\*/", "").replaceAll("//[^\\n]*", "").replaceAll("\"[^\"\\n]*\"", "\"\"");
        List<String> never = List.of("->", "::", "\\btry\\b", "\\bcatch\\b", "\\bfinally\\b", "\\bsynchronized\\b", "\\bassert\\b",
            "\\bvar\\b", "Exact\\b", "\\bpackage\\b", "\\bprotected\\b", "\\bObject\\b", "\\bSystem\\.(?!arraycopy\\()", "\\bdouble\\b",
            "\\bfloat\\b", "\\bnull\\b", "\"\\s*\\+", "\\+\\s*\"", "\\bstatic\\s*\\{", "\\[\\]\\s*\\[\\]");
        for (String word : never) {
            Check.due("never " + word, Pattern.compile(word).matcher(bare).find(), false);
        }
        Matcher imports = Pattern.compile("import ([\\w.]+);").matcher(bare);
        while (imports.find()) {
            Check.due(imports.group(1), Set.of("java.util.Arrays", "java.util.NoSuchElementException").contains(imports.group(1)), true);
        }
        Matcher library = Pattern.compile("\\b(Arrays|Math|Integer|Long)\\.(\\w+)").matcher(bare);
        while (library.find()) {
            Check.due(library.group(), Set.of("fill", "max", "min", "abs").contains(library.group(2)), true);
        }
        for (char sign : source.toCharArray()) {
            if (sign > 127) {
                Check.due("signs up to 127", sign, 127);
            }
        }
    }

    /** Methods of at most sixty lines, and nothing new but in fields, in the constructor and behind throw. */
    private static void sizes(List<String> lines) {
        int begun = -1;
        for (int i = 0; i < lines.size(); i++) {
            String line = lines.get(i);
            if (line.matches(" {4}( {4})?\\S.*[)] *(throws .*)?[{]") || line.matches(" {4}( {4})?(public|private).*[)]$")) {
                begun = i;
            }
            if (line.matches(" {4}( {4})?[}]") && begun >= 0) {
                Check.due("line " + (begun + 1) + " is short", i - begun <= 60, true);
                begun = -1;
            }
            if (line.contains("new ") && !line.matches(".*(/\\*\\*|\\*|//).*")) {
                boolean once = line.contains("throw new ") || line.contains("final ") || line.matches(" {12}(images|trays)\\[i\\] = .*");
                Check.due("line " + (i + 1) + " makes only once", once, true);
            }
        }
    }
}
