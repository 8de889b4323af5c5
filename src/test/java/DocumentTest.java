import java.lang.reflect.Method;
import java.util.ArrayList;
import java.util.List;

/** The tests hold the document: what they quote stands there, and nothing there is left out. */
final class DocumentTest {
    private static final Document DOCUMENT = new Document();

    private DocumentTest() {
    }

    static void document_eachTestOfAPromiseQuotesWordsThatStandThereOnce() {
        for (Method test : AllTests.tests()) {
            int promise = AllTests.promiseOf(test);
            if (promise > 0) {
                Check.same(test.getName() + " quotes something", true, quotes(test).length > 0);
                for (String quote : quotes(test)) {
                    Check.same(test.getName() + " quotes '" + quote + "'", 1, DOCUMENT.count(quote, promise));
                }
            }
        }
    }

    static void document_eachClauseOfTheTermsIsHeld() {
        List<String> quotes = new ArrayList<>();
        for (Method test : AllTests.tests()) {
            quotes.addAll(List.of(quotes(test)));
        }
        for (String clause : DOCUMENT.part(0)) {
            Check.same("a test holds '" + clause + "'", true, isHeld(clause, quotes));
        }
    }

    static void document_eachLineOfAPromiseIsHeld() {
        for (int promise = 1; promise <= Document.PROMISES; promise++) {
            List<String> quotes = new ArrayList<>();
            for (Method test : AllTests.tests()) {
                if (AllTests.promiseOf(test) == promise) {
                    quotes.addAll(List.of(quotes(test)));
                }
            }
            for (String line : DOCUMENT.part(promise)) {
                Check.same("a test of " + promise + " holds '" + line + "'", true, isHeld(line, quotes));
            }
        }
    }

    static void document_isWhole() {
        Check.same("clauses of the Terms", true, DOCUMENT.part(0).size() >= 60);
        for (int promise = 1; promise <= Document.PROMISES; promise++) {
            Check.same("lines of " + promise, true, !DOCUMENT.part(promise).isEmpty());
        }
    }

    private static String[] quotes(Method test) {
        Holds holds = test.getAnnotation(Holds.class);
        return holds == null ? new String[0] : holds.value();
    }

    private static boolean isHeld(String words, List<String> quotes) {
        for (String quote : quotes) {
            if (words.contains(quote) || quote.contains(words)) {
                return true;
            }
        }
        return false;
    }
}
