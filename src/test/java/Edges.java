import java.io.IOException;
import java.nio.file.Files;
import java.nio.file.Path;
import java.util.ArrayList;
import java.util.List;
import java.util.Map;
import java.util.TreeMap;
import java.util.concurrent.Callable;

/** Boundary cases, each named by words of the document; in the end each edge of the document must have one. */
final class Edges {
    /** Makes an object in some state; the same one each time. */
    interface Maker {
        GapYard make();
    }

    /** A call of the face. */
    interface Call {
        Object on(GapYard yard) throws Exception;
    }

    /** The number under which the Terms stand beside the promises. */
    static final int TERMS = 0;
    private static final Path DOCUMENT = Path.of("../shared/DOC.md");
    private static final int PROMISES = 54;

    /** The lines of the Terms and of each promise. */
    private final Map<Integer, List<String>> document = new TreeMap<>();
    /** What the cases of each promise quote. */
    private final Map<Integer, List<String>> quoted = new TreeMap<>();
    private String name = "";
    private boolean isNameTold;
    private int cases;
    private int answers;
    private int wrong;

    Edges() throws IOException {
        int part = -1;
        for (String line : Files.readAllLines(DOCUMENT)) {
            if (line.equals("## Terms")) {
                part = TERMS;
            } else if (line.startsWith("## Promise ")) {
                part = Integer.parseInt(line.substring("## Promise ".length(), line.indexOf(':')));
            } else if (line.startsWith("## ")) {
                part = -1;
            } else if (part >= 0 && !line.isBlank()) {
                document.computeIfAbsent(part, key -> new ArrayList<>()).add(line);
            }
        }
        if (document.size() != PROMISES + 1) {
            fault("the document has " + (document.size() - 1) + " promises");
        }
    }

    /** Begins a case: some words of a promise, or of the Terms, and what the case holds of them. */
    void edge(int promise, String words, String what) {
        cases++;
        name = (promise == TERMS ? "Terms" : "promise " + promise) + ", \"" + words + "\": " + what;
        isNameTold = false;
        quoted.computeIfAbsent(promise, key -> new ArrayList<>()).add(words);
        boolean isThere = false;
        for (String line : document.getOrDefault(promise, List.of())) {
            isThere |= line.contains(words);
        }
        if (!isThere) {
            fault("these words are not there");
        }
    }

    void due(Object wanted, Callable<?> call) {
        answers++;
        String got = answer(call);
        if (!got.equals(String.valueOf(wanted))) {
            fault("got " + got + ", due is " + wanted);
        }
    }

    /** The call throws just this, and the object answers afterwards as one that was made alike and not called. */
    void refused(Class<? extends Exception> wanted, Maker maker, Call call) {
        GapYard yard = maker.make();
        due("throws " + wanted.getName(), () -> call.on(yard));
        String after = Yards.describe(yard);
        String before = Yards.describe(maker.make());
        answers++;
        if (!before.equals(after)) {
            fault("a refused call changed\n    " + before + "\n    to\n    " + after);
        }
    }

    static String answer(Callable<?> call) {
        try {
            return String.valueOf(call.call());
        } catch (Exception e) {
            return "throws " + e.getClass().getName();
        }
    }

    private void fault(String text) {
        wrong++;
        if (!isNameTold) {
            System.out.println(name);
            isNameTold = true;
        }
        System.out.println("  " + text + place());
    }

    private static String place() {
        for (StackTraceElement element : new Throwable().getStackTrace()) {
            if (!element.getClassName().equals("Edges")) {
                return " at " + element;
            }
        }
        return "";
    }

    /** What the document says that names an edge: all that is thrown, and all other lines with a number. */
    private void lookForEdges() {
        name = "edges without a case";
        isNameTold = false;
        for (int promise = 1; promise <= PROMISES; promise++) {
            List<String> lines = document.getOrDefault(promise, List.of());
            for (int i = 0; i < lines.size(); i++) {
                String line = lines.get(i);
                if (line.startsWith("Throws ")) {
                    for (String clause : line.substring(line.indexOf(" if ") + 4).split(", or |, for ")) {
                        wantCase(promise, clause);
                    }
                } else if (i == 0 || line.matches(".*\\d.*")) {
                    wantCase(promise, line);
                }
            }
        }
        for (String sentence : String.join(" ", document.get(TERMS)).split("(?<=[.:;]) ")) {
            // Headings, and what stands of the order of the calls, name no edge.
            if (sentence.length() > 20 && !sentence.matches("Ahead of .*|-+ .*|Each number .*|.* the interface says:")) {
                wantCase(TERMS, sentence);
            }
        }
    }

    private void wantCase(int promise, String clause) {
        boolean isThere = false;
        for (String words : quoted.getOrDefault(promise, List.of())) {
            isThere |= words.contains(clause) || clause.contains(words);
        }
        if (!isThere) {
            fault("promise " + promise + ": " + clause);
        }
    }

    void end() {
        lookForEdges();
        System.out.println(wrong == 0 ? cases + " boundary cases hold, by " + answers + " answers"
                : wrong + " faults in " + cases + " boundary cases");
        if (wrong != 0) {
            System.exit(1);
        }
    }
}
