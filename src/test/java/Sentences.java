import java.io.IOException;

/** Answers that are due by one sentence of the document at a time, and are told with that sentence. */
final class Sentences {
    private final Due due = new Due("EdgesTest");
    private final Document document;
    private String sentence = "";
    private long held = 0;

    Sentences() throws IOException {
        document = Document.isThere() ? new Document() : null;
        if (document == null) {
            System.out.println("EdgesTest: no document here, so that its words are not looked up");
        }
    }

    /** What is asked from here on is due by these words of the document. */
    void hold(String heading, String words) {
        sentence = heading + ", \"" + words + "\": ";
        held++;
        if (document != null) {
            due.yes(sentence + "the document says so", document.says(heading, words));
        }
    }

    void is(String call, long got, long want) {
        due.is(sentence + call, got, want);
    }

    void same(String what, String got, String want) {
        due.is(sentence + what, got, want);
    }

    void yes(String call, boolean got) {
        due.yes(sentence + call, got);
    }

    void no(String call, boolean got) {
        due.no(sentence + call, got);
    }

    /** No sentence under these headings may be without a test. */
    void leaveNoneOut(String... headingsBegin) {
        sentence = "";
        for (String begin : headingsBegin) {
            String left = document == null ? "" : document.leftOut(begin);
            due.yes("a test for each sentence; without one:\n" + left, left.isEmpty());
        }
    }

    void end() {
        System.out.println("EdgesTest: " + held + " tests of one sentence each");
        due.end();
    }
}
