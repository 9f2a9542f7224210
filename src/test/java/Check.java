/** Counts and prints the answers that are not the ones due, sentence by sentence of the document. */
final class Check {
    interface Call {
        long answer();
    }

    interface BookCall {
        long on(DayBook book);
    }

    private static final int PRINTED = 20;

    private String sentence = "";
    private int sentences;
    private int answers;
    private int answersBefore;
    private int wrong;

    /** The answers from here on are due by this sentence of the document. */
    void says(String nextSentence) {
        endSentence();
        sentence = nextSentence;
        sentences++;
        answersBefore = answers;
    }

    void due(String call, long got, long want) {
        answers++;
        if (got != want) {
            tell(call + " answered " + got + ", due is " + want);
        }
    }

    void due(String call, boolean got, boolean want) {
        due(call, got ? 1 : 0, want ? 1 : 0);
    }

    void due(String call, String got, String want) {
        answers++;
        if (!got.equals(want)) {
            tell(call + " answered " + got + ", due is " + want);
        }
    }

    void dueThrow(String call, Class<? extends RuntimeException> want, Call made) {
        answers++;
        try {
            tell(call + " answered " + made.answer() + ", due is " + want.getSimpleName());
        } catch (RuntimeException e) {
            if (e.getClass() != want) {
                tell(call + " threw " + e + ", due is " + want.getSimpleName());
            }
        }
    }

    /** Each of the books throws, and is behind it what it was before. */
    void refused(String call, Class<? extends RuntimeException> want, DayBook[] books, BookCall made) {
        for (DayBook book : books) {
            String before = Seen.of(book);
            dueThrow(call, want, () -> made.on(book));
            due("the book behind " + call, Seen.of(book), before);
        }
    }

    /** Each of the books answers, and is behind it what it was before. */
    void unchanged(String call, long want, DayBook[] books, BookCall made) {
        for (DayBook book : books) {
            String before = Seen.of(book);
            due(call, made.on(book), want);
            due("the book behind " + call, Seen.of(book), before);
        }
    }

    void end() {
        endSentence();
        System.out.println(sentences + " sentences, " + answers + " answers, " + wrong + " not as due");
        if (wrong != 0 || answers == 0) {
            System.exit(1);
        }
    }

    private void endSentence() {
        if (sentences > 0 && answers == answersBefore) {
            tell("nothing is tested");
        }
    }

    private void tell(String text) {
        wrong++;
        if (wrong <= PRINTED) {
            System.out.println(sentence.isEmpty() ? text : text + " (" + sentence + ")");
        }
    }
}
