import java.io.IOException;
import java.nio.file.Files;
import java.nio.file.Path;
import java.util.LinkedHashMap;
import java.util.Map;

/**
 * Ties each test to the sentence of the document that it would find broken. A sentence that the document does not
 * have is wrong, and so is one of a section that was gone through, if it has no test.
 */
final class Sentences {
    static final Class<IndexOutOfBoundsException> INDEX = IndexOutOfBoundsException.class;
    static final Class<IllegalArgumentException> ARGUMENT = IllegalArgumentException.class;
    static final Class<IllegalStateException> STATE = IllegalStateException.class;
    static final int LEAST = Integer.MIN_VALUE;
    static final int MOST = Integer.MAX_VALUE;

    private static final Path DOCUMENT = Path.of("../shared/DOC.md");

    private final Map<String, String> texts = new LinkedHashMap<>();
    private final Map<String, String> untested = new LinkedHashMap<>();
    private String section = "";
    private String sentence = "";
    private int tests = 0;
    private int wrong = 0;

    interface Call {
        Object answer();
    }

    interface CallWithNumber {
        Object answer(int number);
    }

    Sentences() {
        try {
            read();
        } catch (IOException e) {
            tell("the document can't be read: " + e);
        }
    }

    /** A section begins with its title; the lines that name the parameters need no test, but can have one. */
    private void read() throws IOException {
        String title = "";
        for (String line : Files.readAllLines(DOCUMENT)) {
            if (line.startsWith("## ") || line.startsWith("== ")) {
                title = line.substring(3);
                texts.put(title, "");
                untested.put(title, "");
            } else if (!title.isEmpty()) {
                String row = line.replaceFirst("^`[^`]*`: ?", "").strip();
                texts.merge(title, row, (before, next) -> (before + " " + next).strip());
                String needed = row.startsWith("- `") ? "" : row;
                untested.merge(title, needed, (before, next) -> (before + " " + next).strip());
            }
        }
    }

    /** The tests that follow are of this section. */
    void in(String title) {
        section = title;
        sentence = "";
        if (!texts.containsKey(title)) {
            tell("there is no such section");
        }
    }

    void says(String words, Runnable test) {
        sentence = words;
        tests++;
        if (!texts.getOrDefault(section, "").contains(words)) {
            tell("the document does not say so");
        }
        String left = untested.getOrDefault(section, "");
        int place = left.indexOf(words);
        if (place >= 0) {
            untested.put(section, left.substring(0, place) + " " + left.substring(place + words.length()));
        }
        try {
            test.run();
        } catch (RuntimeException e) {
            tell("threw " + e + " at " + e.getStackTrace()[0]);
        }
    }

    void same(String what, Object got, Object due) {
        if (!due.equals(got)) {
            tell(what + " answered " + got + ", due is " + due);
        }
    }

    void refuses(Class<? extends RuntimeException> due, String what, Call call) {
        Object got;
        try {
            got = call.answer();
        } catch (RuntimeException e) {
            got = e.getClass();
        }
        same(what, got, due);
    }

    void refusesEach(Class<? extends RuntimeException> due, String what, CallWithNumber call, int... numbers) {
        for (int number : numbers) {
            refuses(due, what + " with " + number, () -> call.answer(number));
        }
    }

    private void tell(String what) {
        wrong++;
        System.out.println(section + (sentence.isEmpty() ? "" : ": '" + sentence + "'") + ": " + what);
    }

    /** Tells what is wrong, and ends the test. */
    void end(String... sections) {
        sentence = "";
        for (String title : sections) {
            section = title;
            String left = untested.getOrDefault(title, "there is no such section");
            if (left.matches(".*[A-Za-z0-9].*")) {
                tell("without a test: " + left.replaceAll("\\s+", " "));
            }
        }
        System.out.println(wrong == 0 ? tests + " sentences hold" : wrong + " answers are wrong");
        if (wrong != 0) {
            System.exit(1);
        }
    }
}
