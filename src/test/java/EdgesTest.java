import java.nio.file.Path;

/** For each sentence of the document a test of its own; every sentence is quoted. */
public final class EdgesTest {
    public static void main(String[] args) throws Exception {
        Check check = new Check("EdgesTest");
        Quotes quotes = new Quotes(check, Path.of("../shared/DOC.md"));
        new TextEdges(quotes).run();
        new ActEdges(quotes).run();
        new QuestionEdges(quotes).run();
        new SeenEdges(quotes).run();
        quotes.allQuoted();
        check.finish();
    }
}
