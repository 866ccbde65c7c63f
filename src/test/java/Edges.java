import java.io.IOException;
import java.nio.file.Files;
import java.nio.file.Path;
import java.util.ArrayList;
import java.util.List;
import java.util.function.Consumer;
import java.util.function.Supplier;
import java.util.function.ToIntFunction;

/**
 * Checks of boundary cases, each told under the words of the document that name it. Where the document's path is given,
 * the words must stand in it, and each promise must have some out of its own section.
 */
final class Edges {
    private final String name;
    private final String doc;
    private final List<Integer> promised = new ArrayList<>();
    private int promise;
    private String words = "";
    private int answersOfWords;
    private int sentences;
    private int checked;
    private int wrong;

    /** The arguments are those of a test's main: the program's path, and the document's. */
    Edges(String name, String[] args) {
        this.name = name;
        doc = args.length > 1 ? textOf(Path.of(args[1])) : null;
    }

    private static String textOf(Path path) {
        try {
            return Files.exists(path) ? plain(Files.readString(path)) : null;
        } catch (IOException e) {
            return null;
        }
    }

    private static String plain(String text) {
        return text.replaceAll("\\s+", " ");
    }

    /** What is checked from here on is what these words say. */
    void says(int ofPromise, String ofDocument) {
        closeWords();
        promise = ofPromise;
        words = ofDocument;
        answersOfWords = 0;
        sentences++;
        if (doc != null && !doc.contains(plain(words))) {
            tell("the document does not say so");
        }
        if (doc == null || section(promise).contains(plain(words))) {
            promised.add(promise);
        }
    }

    private void closeWords() {
        if (sentences > 0 && answersOfWords == 0) {
            tell("nothing was checked");
        }
    }

    private String section(int number) {
        int from = doc.indexOf("## Promise " + number + ":");
        int to = doc.indexOf("## ", from + 3);
        return from < 0 || to < 0 ? "" : doc.substring(from, to);
    }

    private void tell(String what) {
        wrong++;
        if (wrong <= 50) {
            System.out.println("promise " + promise + ", \"" + words + "\": " + what);
        }
    }

    void due(String call, int got, int want) {
        checked++;
        answersOfWords++;
        if (got != want) {
            tell(call + " answered " + got + ", due is " + want);
        }
    }

    /** A call that is refused: what it answers, and that all is as it is on a twin that was never asked. */
    void refused(String call, Supplier<RankFord> state, ToIntFunction<RankFord> asked, int want) {
        RankFord f = state.get();
        due(call, asked.applyAsInt(f), want);
        sameAsTwin(call, f, state.get());
    }

    /** A call by which nothing changes, whatever it answers. */
    void changesNothing(String call, Supplier<RankFord> state, Consumer<RankFord> asked) {
        RankFord f = state.get();
        asked.accept(f);
        sameAsTwin(call, f, state.get());
    }

    void sameAsTwin(String call, RankFord f, RankFord twin) {
        List<Integer> got = new Sight(f).whole();
        List<Integer> want = new Sight(twin).whole();
        checked++;
        answersOfWords++;
        for (int i = 0; i < Math.min(got.size(), want.size()); i++) {
            if (!got.get(i).equals(want.get(i))) {
                tell("behind " + call + " look " + i + " saw " + got.get(i) + ", due is " + want.get(i));
                return;
            }
        }
        if (got.size() != want.size()) {
            tell("behind " + call + " not as much can be seen");
        }
    }

    void finish(int firstPromise, int lastPromise) {
        closeWords();
        for (int p = firstPromise; p <= lastPromise; p++) {
            promise = p;
            words = "";
            if (!promised.contains(p)) {
                tell("has no words of its own here");
            }
        }
        System.out.println(name + ": " + sentences + " sentences, " + checked + " answers, " + wrong + " not as due");
        if (wrong != 0 || checked == 0) {
            System.exit(1);
        }
    }
}
