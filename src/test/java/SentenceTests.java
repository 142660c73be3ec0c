import java.io.IOException;
import java.nio.file.Path;

/** Each sentence of the document that names a case has a test of its own here, and no word is left out. */
public final class SentenceTests {
    /** 'Terms' 1 to 4 and its refusals, and 30 promises. */
    private static final int SECTIONS = 35;

    public static void main(String[] args) throws IOException {
        Check check = new Check();
        Doc doc = new Doc(Path.of("../shared/DOC.md"));
        Suite[] suites = {new TermsSuite(check, doc), new PlacesSuite(check, doc), new DaySuite(check, doc),
            new LeastSuite(check, doc), new BooksSuite(check, doc), new ToldSuite(check, doc)};
        int tests = 0;
        for (Suite suite : suites) {
            suite.all();
            tests += suite.tests();
        }
        check.due("sections of the document", doc.sections(), SECTIONS);
        check.due("words that no test holds", doc.unheld(), "");
        System.out.println(tests + " tests of sentences");
        check.close();
    }
}
