import java.io.IOException;
import java.nio.file.Files;
import java.nio.file.Path;
import java.util.ArrayList;
import java.util.List;

/**
 * Tests, each of one sentence of the document as it is quoted. A quote has to
 * stand in its promise's chapter or ahead of the first one, and no part of the
 * chapters may be left that nothing quotes.
 */
final class Sentences {
    private static final Path DOCUMENT = Path.of("../shared/DOC.md");
    private static final int PROMISES = 27;

    private record Sentence(int promise, String quote, Runnable test) { }

    private final List<Sentence> sentences = new ArrayList<>();
    private int promise = 0;

    /** The sentences that follow are tested as they bind this promise. */
    void promise(int number) {
        promise = number;
    }

    void of(String quote, Runnable test) {
        sentences.add(new Sentence(promise, quote, test));
    }

    void run() {
        for (Sentence one : sentences) {
            Checks.about("promise " + one.promise + ", \"" + one.quote + "\"");
            int before = Checks.checks();
            try {
                one.test.run();
            } catch (RuntimeException thrown) {
                Checks.fault("threw " + thrown);
            }
            if (Checks.checks() == before) {
                Checks.fault("has a test without a check");
            }
        }
        holdAgainstDocument();
        Checks.end("sentences: " + sentences.size());
    }

    private void holdAgainstDocument() {
        Checks.about("quotes");
        String document;
        try {
            document = Files.readString(DOCUMENT);
        } catch (IOException missing) {
            Checks.fault("the document can't be read: " + missing);
            return;
        }
        String[] chapters = document.split("(?m)^## Promise \\d+: .*$");
        if (chapters.length != PROMISES + 1) {
            Checks.fault("the document has " + (chapters.length - 1) + " promises");
            return;
        }
        for (Sentence one : sentences) {
            if (!chapters[one.promise].contains(one.quote) && !chapters[0].contains(one.quote)) {
                Checks.fault("the document does not say to promise " + one.promise + ": " + one.quote);
            }
        }
        String terms = chapters[0].substring(chapters[0].indexOf("## Terms"));
        for (String part : terms.split("(?<=[.;])\\s+|\n")) {
            dueQuoted(0, part);
        }
        chapters[PROMISES] = chapters[PROMISES].split("(?m)^## ")[0];
        for (int i = 1; i <= PROMISES; i++) {
            String chapter = chapters[i].replaceAll("(?m)^`[^`]*\\)`: ", "");
            for (String part : chapter.split("(?m)(?<=[.;])\\s|^- |\n")) {
                dueQuoted(i, part);
            }
        }
    }

    /** A part of the terms may be quoted to any promise, that of a promise only to it. */
    private void dueQuoted(int number, String text) {
        String part = text.strip().replaceAll("[.;]$", "");
        boolean isTitle = part.startsWith("#") || part.matches("[A-Z ]*") && number == 0;
        if (isTitle || part.isEmpty() || part.startsWith("Ahead of the calls")) {
            return;
        }
        for (Sentence one : sentences) {
            boolean isOfIt = number == 0 || one.promise == number;
            if (isOfIt && (part.contains(one.quote) || one.quote.contains(part))) {
                return;
            }
        }
        Checks.fault((number == 0 ? "the terms: " : "promise " + number + ": ") + "no test quotes \"" + part + "\"");
    }
}
