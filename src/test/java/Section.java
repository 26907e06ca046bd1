import java.util.function.Consumer;

/** The tests of one section of the document. Each quotes the words that it tests and is told on a line of its own. */
final class Section {
    private final String name;
    private int broken;

    Section(String name) {
        this.name = name;
    }

    /** Words of the document, the case of them that is looked at, and the test, which is given where to tell it. */
    void test(String words, String at, Consumer<Due> body) {
        Due due = new Due();
        if (!Document.says(words)) {
            due.isWrong("    the document does not say: " + words);
        }
        try {
            body.accept(due);
        } catch (RuntimeException | Error e) {
            due.isWrong("a call threw " + e);
        }
        if (!due.holds()) {
            broken++;
        }
        System.out.println((due.holds() ? "  holds   " : "  BROKEN  ") + name + " \"" + words + "\" - " + at);
    }

    /** Ends the program with 1 if a test did not hold. */
    void end() {
        if (broken != 0) {
            System.out.println(name + ": " + broken + " tests do not hold");
            System.exit(1);
        }
    }
}
