import com.sun.source.tree.CompilationUnitTree;
import com.sun.source.util.JavacTask;
import com.sun.source.util.Trees;
import java.io.IOException;
import java.lang.reflect.Array;
import java.lang.reflect.Constructor;
import java.lang.reflect.Field;
import java.lang.reflect.Method;
import java.lang.reflect.Modifier;
import java.nio.file.Files;
import java.nio.file.Path;
import java.util.ArrayDeque;
import java.util.Collections;
import java.util.Deque;
import java.util.IdentityHashMap;
import java.util.List;
import java.util.Map;
import java.util.Set;
import java.util.TreeSet;
import java.util.regex.Matcher;
import java.util.regex.Pattern;
import javax.tools.JavaCompiler;
import javax.tools.StandardJavaFileManager;
import javax.tools.ToolProvider;

/**
 * What LANGUAGE.md asks for, as far as it can be seen from the class and its text, and the face that the document tells.
 * The arguments are the text's path and the document's.
 */
public final class LanguageTests {
    private static final int MOST_CLASSES = 12;
    private static final int DEEPEST_CALLS = 8;
    private static final int MOST_OBJECTS = 600_000;
    private static final int MOST_ELEMENTS = 7_300_000;

    private static int wrong;
    private static int checked;

    private LanguageTests() { }

    public static void main(String[] args) throws IOException {
        Path text = Path.of(args.length > 0 ? args[0] : "src/main/java/RankFord.java");
        Path document = Path.of(args.length > 1 ? args[1] : "../shared/DOC.md");
        face(Files.readString(document));
        signs(Files.readAllLines(text));
        source(text);
        room();
        System.out.println("LanguageTests: " + checked + " looked at, " + wrong + " not as the rules ask");
        if (wrong != 0) {
            System.exit(1);
        }
    }

    private static void due(String what, boolean holds) {
        checked++;
        if (!holds) {
            wrong++;
            System.out.println("not so: " + what);
        }
    }

    /** The public face, in the document's own words. */
    private static void face(String document) {
        Set<String> told = new TreeSet<>();
        Matcher lines = Pattern.compile("(?m)^    public (?:static final )?(?:int )?(\\w+(?:\\(.*\\)| = -?\\d+));$").matcher(document);
        while (lines.find()) {
            told.add(lines.group(1).replaceAll("int \\w+", "int"));
        }
        Set<String> open = new TreeSet<>();
        for (Method m : RankFord.class.getDeclaredMethods()) {
            due(m.getName() + " answers an int", !Modifier.isPublic(m.getModifiers()) || m.getReturnType() == int.class);
            due(m.getName() + " is an object's", !Modifier.isPublic(m.getModifiers()) || !Modifier.isStatic(m.getModifiers()));
            if (!Modifier.isPrivate(m.getModifiers())) {
                open.add(m.getName() + kinds(m.getParameterTypes()));
            }
        }
        for (Constructor<?> c : RankFord.class.getDeclaredConstructors()) {
            open.add("RankFord" + kinds(c.getParameterTypes()));
        }
        for (Field f : RankFord.class.getDeclaredFields()) {
            if (!Modifier.isPrivate(f.getModifiers())) {
                open.add(f.getName() + " = " + (f.getName().equals("NONE") ? RankFord.NONE : 0));
            }
        }
        due("the document tells 34 calls, a constructor and a constant: " + told, told.size() == 36);
        due("the face is " + told + ", not " + open, open.equals(told));
        due("the class is public and final", Modifier.isFinal(RankFord.class.getModifiers()) && Modifier.isPublic(RankFord.class.getModifiers()));
        due("the class has no package", RankFord.class.getPackageName().isEmpty());
    }

    private static String kinds(Class<?>[] parameters) {
        StringBuilder kinds = new StringBuilder("(");
        for (Class<?> each : parameters) {
            kinds.append(kinds.length() > 1 ? ", " : "").append(each.getName());
        }
        return kinds.append(")").toString();
    }

    private static void signs(List<String> lines) {
        for (int i = 0; i < lines.size(); i++) {
            due("line " + (i + 1) + " has signs 1 to 127", lines.get(i).chars().allMatch(c -> c > 0 && c < 128));
        }
    }

    private static void source(Path text) throws IOException {
        Set<String> names = new TreeSet<>();
        for (Method m : RankFord.class.getMethods()) {
            names.add(m.getName());
        }
        JavaCompiler javac = ToolProvider.getSystemJavaCompiler();
        try (StandardJavaFileManager files = javac.getStandardFileManager(null, null, null)) {
            JavacTask task = (JavacTask) javac.getTask(null, files, null, List.of("-proc:none"), null, files.getJavaFileObjects(text));
            CompilationUnitTree unit = task.parse().iterator().next();
            task.analyze();
            due("the file has one class", unit.getTypeDecls().size() == 1);
            SourceLook look = new SourceLook(Trees.instance(task), unit, names);
            look.scan(unit, null);
            checked += look.looked;
            for (String each : look.wrong) {
                due(each, false);
            }
            due("the text was looked at", look.looked > 1000);
            due("some twelve classes, not " + look.classes, look.classes <= MOST_CLASSES);
            calls(look.calls);
        }
    }

    private static void calls(Map<String, Set<String>> calls) {
        for (String each : calls.keySet()) {
            int deep = deepest(each, calls, new ArrayDeque<>());
            due(each + " goes " + deep + " calls deep", deep <= DEEPEST_CALLS);
        }
    }

    /** Recursion is left out, as rule 11 does. */
    private static int deepest(String method, Map<String, Set<String>> calls, Deque<String> open) {
        open.push(method);
        int most = 0;
        for (String each : calls.getOrDefault(method, Set.of())) {
            if (!open.contains(each)) {
                most = Math.max(most, deepest(each, calls, open));
            }
        }
        open.pop();
        return most + 1;
    }

    /** All that one object with six rules holds; that calls make no more is looked at in the text. */
    private static void room() {
        RankFord f = Checks.made(States.THREE);
        int before = elements(f)[0];
        for (int i = 0; i < 512; i++) {
            Checks.rule(f, "go 1 if [ not 1 < 2 ] or day > 3");
            f.force(i % 6);
            f.day();
            f.undo();
            f.image(i % 4);
            f.fairs(10, 60, 50, 0);
        }
        int[] held = elements(f);
        due("few objects: " + held[0], held[0] < MOST_OBJECTS / 1000);
        due("few elements: " + held[1], held[1] < MOST_ELEMENTS / 1000);
        due("six rules, each of three objects, and no more: " + before + ", " + held[0], held[0] <= before + 6 * 3);
    }

    private static int[] elements(Object first) {
        Set<Object> seen = Collections.newSetFromMap(new IdentityHashMap<>());
        Deque<Object> left = new ArrayDeque<>(List.of(first));
        int elements = 0;
        while (!left.isEmpty()) {
            Object each = left.pop();
            if (!seen.add(each)) {
                continue;
            }
            if (each.getClass().isArray()) {
                elements += Array.getLength(each);
                for (int i = 0; i < Array.getLength(each) && !each.getClass().getComponentType().isPrimitive(); i++) {
                    push(left, Array.get(each, i));
                }
            } else {
                for (Field field : each.getClass().getDeclaredFields()) {
                    if (!Modifier.isStatic(field.getModifiers())) {
                        elements++;
                        push(left, field.getType().isPrimitive() ? null : valueOf(field, each));
                    }
                }
            }
        }
        return new int[] {seen.size(), elements};
    }

    private static void push(Deque<Object> left, Object each) {
        if (each != null) {
            left.push(each);
        }
    }

    private static Object valueOf(Field field, Object of) {
        try {
            field.setAccessible(true);
            return field.get(of);
        } catch (IllegalAccessException e) {
            throw new IllegalStateException(e);
        }
    }
}
