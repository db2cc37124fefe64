import java.io.IOException;

/**
 * All promises, one sentence of the document at a time: each that names a boundary case (too small,
 * too large, empty, full, a wrap-around, a refused call) has tests of its own, which say the promise
 * and the sentence. The sentences are looked up in the document, and none may be left out.
 */
public final class EdgesTest {
    public static void main(String[] args) throws IOException {
        Sentences s = new Sentences();
        TermEdges.all(s);
        WorldEdges.all(s);
        LawEdges.all(s);
        SumEdges.all(s);
        WordEdges.all(s);
        s.leaveNoneOut("Terms", "Promise");
        s.end();
    }
}
