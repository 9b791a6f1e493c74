import java.util.function.Consumer;

/** Runs one test for each sentence of the document, and tells which sentences do not hold. */
final class Sentences {
    private int held;
    private int broken;

    void holds(String sentence, Consumer<Due> test) {
        Due due = new Due();
        try {
            test.accept(due);
        } catch (RuntimeException e) {
            due.same("a call threw " + e, 0, 1);
        }
        if (due.isRight()) {
            held++;
        } else {
            broken++;
            System.out.println("DOES NOT HOLD: " + sentence);
        }
    }

    /** Ends the test: exit code 1 if a sentence does not hold, or if there was none. */
    void end() {
        System.out.println(held + " sentences hold, " + broken + " do not");
        if (broken != 0 || held == 0) {
            System.exit(1);
        }
    }
}
