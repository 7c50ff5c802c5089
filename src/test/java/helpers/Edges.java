import java.io.IOException;
import java.nio.file.Files;
import java.nio.file.Path;

/** Tests of single sentences: each test quotes the words of the document that it is about. */
final class Edges {
    private final Check check = new Check();
    private final Sentences sentences;

    Edges() throws IOException {
        Path document = Path.of(System.getProperty("riverifs.document", ""));
        sentences = Files.isRegularFile(document) ? new Sentences(document) : null;
    }

    /** The following answers belong to these words of that section. */
    void of(String section, String words) {
        check.promise(section + ", '" + words + "'");
        if (sentences != null) {
            check.same("the document's words", sentences.quote(section, words), true);
        }
    }

    void same(String what, Object got, Object due) {
        check.same(what, got, due);
    }

    void noSuch(String what, Check.Call call) {
        check.noSuch(what, call);
    }

    void illegal(String what, Check.Call call) {
        check.illegal(what, call);
    }

    void fine(String text) {
        check.same("'" + text + "'", Texts.faultOf(text), "0@-1");
    }

    void fault(String text, int number, int place) {
        check.same("'" + text + "'", Texts.faultOf(text), number + "@" + place);
    }

    void end() {
        check.promise("edges that the document names");
        if (sentences != null) {
            for (String one : sentences.notQuoted()) {
                check.same("a test that quotes '" + one + "'", "none", "one");
            }
        }
        check.end();
    }
}
