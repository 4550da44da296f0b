import java.util.function.Consumer;

/** Runs a test of its own for each sentence of the document, and tells by the sentence which one does not hold. */
final class Sentences {
    private int tried = 0;
    private int broken = 0;

    void holds(String sentence, Consumer<Check> test) {
        Check check = new Check();
        try {
            test.accept(check);
        } catch (RuntimeException | AssertionError e) {
            check.fail("the test was cut off by " + e);
        }
        tried++;
        if (!check.isGood()) {
            broken++;
            System.out.println("BROKEN: " + sentence);
        }
    }

    void end() {
        System.out.println(tried + " sentences, " + broken + " broken");
        if (broken != 0 || tried == 0) {
            System.exit(1);
        }
    }
}
