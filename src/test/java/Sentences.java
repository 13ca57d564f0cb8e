import java.util.function.Consumer;

/** Runs one test for each sentence of the document, so that the sentence that does not hold is told by its words. */
final class Sentences {
    private int held;
    private int broken;

    void holds(String sentence, Consumer<Check> test) {
        Check check = new Check();
        try {
            test.accept(check);
        } catch (RuntimeException e) {
            check.due("a call of the test throws", e.toString(), "nothing");
        }
        if (check.isRight()) {
            held++;
        } else {
            broken++;
            System.out.println("BROKEN: " + sentence);
        }
    }

    void end() {
        System.out.println(held + " sentences hold, " + broken + " are broken");
        if (broken != 0) {
            System.exit(1);
        }
    }
}
