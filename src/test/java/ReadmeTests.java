import java.io.ByteArrayOutputStream;
import java.io.IOException;
import java.io.PrintStream;
import java.lang.reflect.Method;
import java.lang.reflect.Modifier;
import java.net.URL;
import java.net.URLClassLoader;
import java.nio.charset.StandardCharsets;
import java.nio.file.Files;
import java.nio.file.Path;
import java.util.Comparator;
import java.util.LinkedHashMap;
import java.util.List;
import java.util.Map;
import java.util.Set;
import java.util.TreeMap;
import java.util.TreeSet;
import java.util.function.ToIntFunction;
import java.util.regex.Matcher;
import java.util.regex.Pattern;
import java.util.stream.Stream;
import javax.tools.ToolProvider;

/** README.md is as the class is. The arguments are the class's text, the document and README.md. */
public final class ReadmeTests {
    private static final Pattern ROW = Pattern.compile("(?m)^\\| `(\\w+)\\((.*?)\\)` \\| (.*) \\| (.*) \\|$");
    private static final String RESTLESS = "ford 10 0;person 20 1 3;person 20 8 3;person 20 8 1;person 20 0 4;thinks 2 2 20";

    private static final Map<String, Set<Integer>> REFUSED = new TreeMap<>();
    private static int checked;
    private static int wrong;

    private ReadmeTests() { }

    public static void main(String[] args) throws Exception {
        Path readme = Path.of(args.length > 2 ? args[2] : "README.md").toAbsolutePath();
        String text = Files.readString(readme);
        program(text);
        refuseTexts();
        refuseActs();
        refuseQuestions();
        refuseGames();
        refuseTold();
        table(text);
        files(text, readme.getParent());
        System.out.println("ReadmeTests: " + checked + " looked at, " + wrong + " not as README.md says");
        if (wrong != 0) {
            System.exit(1);
        }
    }

    private static void due(String what, boolean holds) {
        checked++;
        if (!holds) {
            wrong++;
            System.out.println("not so: " + what);
        }
    }

    private static String block(String text, String kind) {
        Matcher block = Pattern.compile("```" + kind + "\\n(.*?)```", Pattern.DOTALL).matcher(text);
        return block.find() ? block.group(1) : "";
    }

    private static void program(String text) throws Exception {
        String program = block(text, "java");
        Matcher name = Pattern.compile("public final class (\\w+)").matcher(program);
        due("there is a program", name.find());
        Path place = Files.createTempDirectory("readme");
        Path file = place.resolve(name.group(1) + ".java");
        Files.writeString(file, program);
        String classes = System.getProperty("java.class.path");
        int compiled = ToolProvider.getSystemJavaCompiler().run(null, null, null, "-cp", classes, "-d", place.toString(), file.toString());
        due("the program compiles", compiled == 0);
        if (compiled == 0) {
            String want = block(text, "text");
            String got = printedBy(place, name.group(1));
            due("the program prints\n" + want + "but\n" + got, got.equals(want) && !want.isEmpty());
        }
        remove(place);
    }

    private static String printedBy(Path place, String name) throws Exception {
        PrintStream out = System.out;
        ByteArrayOutputStream kept = new ByteArrayOutputStream();
        try (URLClassLoader loader = new URLClassLoader(new URL[] {place.toUri().toURL()})) {
            System.setOut(new PrintStream(kept, true, StandardCharsets.UTF_8));
            loader.loadClass(name).getMethod("main", String[].class).invoke(null, (Object) new String[0]);
        } finally {
            System.setOut(out);
        }
        return kept.toString(StandardCharsets.UTF_8).replace("\r\n", "\n");
    }

    private static void remove(Path place) throws IOException {
        try (Stream<Path> all = Files.walk(place)) {
            for (Path each : (Iterable<Path>) all.sorted(Comparator.reverseOrder())::iterator) {
                Files.delete(each);
            }
        }
    }

    /** What a call answers that is refused, or that has nothing to tell. */
    private static void refuse(String call, RankFord f, ToIntFunction<RankFord> asked) {
        REFUSED.computeIfAbsent(call, k -> new TreeSet<>()).add(asked.applyAsInt(f));
    }

    private static void refuseTexts() {
        refuse("feed", States.full(), f -> f.feed(0, 0, 0, 0, 0));
        refuse("end", States.some(), f -> f.end(-1));
        refuse("end", States.some(), f -> f.end(21));
        refuse("ford", new RankFord(), RankFord::ford);
        refuse("rule", new RankFord(), RankFord::rule);
        refuse("rule", States.full(), RankFord::rule);
        refuse("force", States.some(), f -> f.force(2));
        refuse("force", States.some(), f -> f.force(-2));
    }

    private static void refuseActs() {
        refuse("person", States.some(), f -> f.person(3, 0));
        refuse("person", States.some(), f -> f.person(0, 4));
        refuse("thinks", States.some(), f -> f.thinks(0, 3));
        refuse("depth", States.some(), f -> f.depth(3, 0));
        refuse("day", States.fordless(), RankFord::day);
        refuse("cross", States.some(), f -> f.cross(0, 3));
        refuse("cross", Checks.made("ford 1 0;person 0 0 0"), f -> f.cross(0, 0));
        refuse("remark", States.some(), f -> f.remark(0, 3, 1));
        refuse("remark", States.some(), f -> f.remark(0, 0, 21));
        refuse("remark", States.some(), f -> f.remark(0, 0, f.thinks(0, 0)));
        refuse("pay", States.some(), f -> f.pay(0, 0, 1));
        refuse("pay", States.some(), f -> f.pay(0, 1, 99));
        refuse("flood", States.fordless(), f -> f.flood(1));
        refuse("flood", States.some(), f -> f.flood(61));
        refuse("flood", States.some(), f -> f.flood(f.count(0)));
        refuse("undo", new RankFord(), RankFord::undo);
    }

    private static void refuseQuestions() {
        RankFord drowned = Checks.made("ford 60 0;person 0 0 0");
        refuse("ahead", States.some(), f -> f.ahead(3, 1, 0));
        refuse("ahead", States.some(), f -> f.ahead(0, 61, 0));
        refuse("ahead", States.some(), f -> f.ahead(0, 1, 3));
        refuse("over", States.fordless(), RankFord::over);
        refuse("over", drowned, RankFord::over);
        refuse("most", States.fordless(), f -> f.most(0));
        refuse("most", States.some(), f -> f.most(8));
        refuse("most", drowned, f -> f.most(3));
        refuse("fewest", States.fordless(), f -> f.fewest(0));
        refuse("fewest", States.some(), f -> f.fewest(3));
        refuse("fewest", drowned, f -> f.fewest(0));
        refuse("ring", States.fordless(), f -> f.ring(0));
        refuse("ring", States.some(), f -> f.ring(2));
        refuse("ring", drowned, f -> f.ring(1));
        refuse("oneRemark", States.fordless(), f -> f.oneRemark(0));
        refuse("oneRemark", States.some(), f -> f.oneRemark(3));
        refuse("rise", States.some(), f -> f.rise(3));
        refuse("rise", Checks.made("ford 0 0;person 60 0 0"), f -> f.rise(0));
        refuse("fair", States.fordless(), RankFord::fair);
    }

    private static void refuseGames() {
        RankFord restless = Checks.made(RESTLESS);
        Checks.rule(restless, "go 9 - fee if alone = 0");
        restless.force(0);
        refuse("self", States.some(), f -> f.self(0, 0));
        refuse("self", Checks.made("ford 60 0;person 0 0 0;person 0 0 0"), f -> f.self(0, 1));
        refuse("hired", States.fordless(), f -> f.hired(1, 0));
        refuse("hired", States.some(), f -> f.hired(31, 0));
        refuse("hired", States.some(), f -> f.hired(1, 2));
        refuse("rests", States.some(), f -> f.rests(0, 0, 1, 0));
        refuse("rests", States.some(), f -> f.rests(0, 1, 21, 0));
        refuse("rests", restless, f -> f.rests(3, 2, 1, 1));
        refuse("price", States.some(), f -> f.price(0, 0));
        refuse("price", Checks.made("ford 60 0;person 0 0 0;person 0 0 0"), f -> f.price(0, 1));
        refuse("price", Checks.made("ford 0 0;person 0 0 0;person 0 0 0"), f -> f.price(0, 1));
    }

    private static void refuseTold() {
        RankFord untrue = Checks.made("ford 0 0;person 0 0 0");
        untrue.note(0, 0, 0);
        refuse("note", States.some(), f -> f.note(61, 0, 0));
        refuse("note", States.some(), f -> f.note(0, 3, 0));
        refuse("note", States.full(), f -> f.note(0, 0, 0));
        refuse("ruled", States.fordless(), f -> f.ruled(0));
        refuse("ruled", States.some(), f -> f.ruled(2));
        refuse("ruled", untrue, f -> f.ruled(1));
        refuse("look", States.fordless(), f -> f.look(0));
        refuse("look", States.some(), f -> f.look(2));
        refuse("look", untrue, f -> f.look(0));
        refuse("seed", new RankFord(), f -> f.seed(-1));
        refuse("fairs", States.fordless(), f -> f.fairs(1, 1, 0, 0));
        refuse("fairs", States.some(), f -> f.fairs(11, 1, 0, 0));
        refuse("count", new RankFord(), f -> f.count(12));
        refuse("image", new RankFord(), f -> f.image(4));
        refuse("back", new RankFord(), f -> f.back(0));
        refuse("back", new RankFord(), f -> f.back(4));
    }

    private static void table(String text) {
        Map<String, Integer> open = new LinkedHashMap<>();
        for (Method m : RankFord.class.getDeclaredMethods()) {
            if (Modifier.isPublic(m.getModifiers())) {
                open.put(m.getName(), m.getParameterCount());
            }
        }
        Matcher rows = ROW.matcher(text);
        while (rows.find()) {
            String call = rows.group(1);
            Integer parameters = open.remove(call);
            int told = rows.group(2).isEmpty() ? 0 : rows.group(2).split(", ").length;
            due(call + " is a call with " + told + " numbers, and stands once", parameters != null && parameters == told);
            Set<Integer> answers = numbersIn(rows.group(4));
            due(call + " is refused by " + answers + ", not " + REFUSED.get(call), answers.equals(REFUSED.get(call)));
        }
        due("no row for " + open.keySet(), open.isEmpty());
    }

    /** Numbers ahead of a colon or of 'or less'. */
    private static Set<Integer> numbersIn(String column) {
        Set<Integer> numbers = new TreeSet<>();
        Matcher each = Pattern.compile("(-\\d+)(?= or less:|:)").matcher(column);
        while (each.find()) {
            numbers.add(Integer.parseInt(each.group(1)));
        }
        return numbers;
    }

    /** What it names is there, and each test of the project has a name in it. */
    private static void files(String text, Path project) throws IOException {
        Matcher named = Pattern.compile("(?<![\\w/.])(\\.\\./shared|src|\\.ci)/[\\w./]*\\w").matcher(text);
        int found = 0;
        while (named.find()) {
            found++;
            due(named.group() + " is there", named.group().endsWith("..Tests.java") || Files.exists(project.resolve(named.group())));
        }
        due("files are named", found > 5);
        try (Stream<Path> tests = Files.list(project.resolve("src/test/java"))) {
            for (Path each : tests.filter(p -> p.toString().endsWith("Tests.java")).sorted().toList()) {
                String name = each.getFileName().toString().replace(".java", "");
                due(name + " is told of", text.contains("`" + name + "`"));
            }
        }
        List<String> commands = List.of("bash .ci/run", "java -cp out PromiseTests", "java -cp out RankFordRuns");
        for (String each : commands) {
            due(each + " is told", text.contains(each));
        }
    }
}
