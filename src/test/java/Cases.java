import java.util.function.Consumer;

/**
 * The cases of one part of the document: each has the words that it holds to
 * and a test of its own. Words of that part that no case has are a fault, too.
 */
final class Cases {
    private final String part;
    private final int promise;
    private final String text;
    private final boolean[] isHeld;
    private final Check check = new Check();

    private Cases(String part, int promise, String text) {
        this.part = part;
        this.promise = promise;
        this.text = text;
        this.isHeld = new boolean[text.length()];
    }

    static Cases ofPromise(int number) {
        return new Cases("", number, Document.promise(number));
    }

    static Cases ofTerms(String firstWords) {
        return new Cases("Terms, for ", 0, Document.paragraph("## Terms", firstWords));
    }

    static Cases ofTheFace() {
        return new Cases("The public face, for ", 0, Document.paragraph("## The public face", "public"));
    }

    static Cases ofTheWhole(String firstWords) {
        return new Cases("The whole, for ", 0, Document.paragraph("## What it is", firstWords));
    }

    void hold(String words, Consumer<Check> test) {
        hold(promise, words, test);
    }

    /** The number is that of the promise by whose call the words can be seen. */
    void hold(int number, String words, Consumer<Check> test) {
        check.under(part + "promise " + number + ", \"" + words + "\"");
        markHeld(words);
        run(test);
    }

    /** What holds beside the document's words. */
    void also(String what, Consumer<Check> test) {
        check.under(what);
        run(test);
    }

    void end() {
        check.under(part + "the document's words");
        if (text.isEmpty()) {
            System.out.println("the document is not there: its words were not compared");
        }
        StringBuilder left = new StringBuilder();
        for (int i = 0; i < isHeld.length; i++) {
            if (!isHeld[i]) {
                left.append(text.charAt(i));
            }
        }
        if (!left.toString().isBlank()) {
            check.wrong("no case has: " + left);
        }
        check.end();
    }

    private void run(Consumer<Check> test) {
        int before = check.compared();
        try {
            test.accept(check);
        } catch (RuntimeException | StackOverflowError e) {
            check.wrong("a call threw " + e);
        }
        if (check.compared() == before) {
            check.wrong("nothing was compared");
        }
    }

    private void markHeld(String words) {
        if (text.isEmpty()) {
            return;
        }
        int at = text.indexOf(words);
        while (at >= 0 && isHeld[at]) {
            at = text.indexOf(words, at + 1);
        }
        if (at < 0) {
            at = text.indexOf(words);
        }
        if (at < 0) {
            check.wrong("the document does not say that");
            return;
        }
        for (int i = 0; i < words.length(); i++) {
            isHeld[at + i] = true;
        }
    }
}
