import java.io.IOException;
import java.lang.reflect.Field;
import java.lang.reflect.Method;
import java.lang.reflect.Modifier;
import java.nio.file.Files;
import java.nio.file.Path;
import java.util.ArrayList;
import java.util.Arrays;
import java.util.List;
import java.util.Set;
import java.util.TreeSet;
import java.util.regex.Matcher;
import java.util.regex.Pattern;

/** What LANGUAGE.md asks for, as far as it can be seen from the class and its text. The text's path is the argument. */
public final class LanguageTests {
    private static final Set<String> FACE = new TreeSet<>(Arrays.asList("feed/5", "end/1", "ford/0", "rule/0", "force/1",
            "person/2", "thinks/2", "depth/2", "day/0", "cross/2", "remark/3", "pay/3", "flood/1", "undo/0", "ahead/3",
            "over/0", "most/1", "fewest/1", "ring/1", "oneRemark/1", "rise/1", "fair/0", "self/2", "hired/2", "rests/4",
            "price/2", "note/3", "ruled/1", "look/1", "seed/1", "fairs/4", "count/1", "image/1", "back/1"));
    private static final String BANNED = "\\b(throw|throws|try|catch|finally|synchronized|assert|var|System\\.(?!arraycopy)\\w+"
            + "|hashCode|toString|Exact|Thread|Random|HashMap|Object)\\b|->|::|\\w+Exact\\b";

    private static int wrong;
    private static int checked;

    private LanguageTests() { }

    public static void main(String[] args) throws IOException {
        face();
        fields();
        classes();
        text(args.length > 0 ? Path.of(args[0]) : Path.of("src/main/java/RankFord.java"));
        System.out.println("LanguageTests: " + checked + " looked at, " + wrong + " not as the rules ask");
        if (wrong != 0) {
            System.exit(1);
        }
    }

    private static void due(String what, boolean holds) {
        checked++;
        if (!holds) {
            wrong++;
            System.out.println("not so: " + what);
        }
    }

    private static void face() {
        Set<String> open = new TreeSet<>();
        Set<String> names = new TreeSet<>();
        for (String each : FACE) {
            names.add(each.substring(0, each.indexOf('/')));
        }
        for (Method m : RankFord.class.getDeclaredMethods()) {
            if (Modifier.isPublic(m.getModifiers())) {
                open.add(m.getName() + "/" + m.getParameterCount());
            } else {
                due(m.getName() + " is private", Modifier.isPrivate(m.getModifiers()));
                due(m.getName() + " is no name of the face", !names.contains(m.getName()));
            }
        }
        due("the face is " + FACE, open.equals(FACE));
        due("the class is final", Modifier.isFinal(RankFord.class.getModifiers()));
    }

    private static void fields() {
        for (Field f : RankFord.class.getDeclaredFields()) {
            due(f.getName() + " is private", f.getName().equals("NONE") || Modifier.isPrivate(f.getModifiers()));
        }
    }

    private static void classes() {
        Class<?>[] inside = RankFord.class.getDeclaredClasses();
        due("some twelve classes", inside.length <= 12);
        List<Class<?>> all = new ArrayList<>(Arrays.asList(inside));
        all.add(RankFord.class);
        for (Class<?> c : all) {
            due(c + " is static", c == RankFord.class || Modifier.isStatic(c.getModifiers()));
            int own = 0;
            for (Field f : c.getDeclaredFields()) {
                if (Modifier.isStatic(f.getModifiers())) {
                    due(f + " is final", Modifier.isFinal(f.getModifiers()));
                } else {
                    own++;
                }
            }
            due(c + " has some twenty fields", own <= 20);
            for (Method m : c.getDeclaredMethods()) {
                due(m + " has seven parameters at most", m.getParameterCount() <= 7);
            }
        }
    }

    private static void text(Path path) throws IOException {
        List<String> lines = Files.readAllLines(path);
        int start = 0;
        for (int i = 0; i < lines.size(); i++) {
            String line = lines.get(i);
            String code = line.replaceAll("/\\*\\*.*|//.*|\"[^\"]*\"", "");
            Matcher banned = Pattern.compile(BANNED).matcher(code);
            due("line " + (i + 1) + ": " + line, !banned.find());
            due("line " + (i + 1) + " imports", !line.startsWith("import") || line.matches("import java\\.util\\.(Arrays|ArrayList|List);"));
            due("line " + (i + 1) + " has signs 1 to 127", line.chars().allMatch(c -> c > 0 && c < 128));
            if (line.matches(" {4,8}[\\w\\[\\] ]+\\(.*\\) \\{")) {
                start = i;
            }
            if (line.matches(" {4,8}\\}")) {
                due("lines " + (start + 1) + " to " + (i + 1) + " are short", i - start <= 60 || line.equals("    }"));
            }
        }
    }
}
