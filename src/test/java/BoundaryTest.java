import java.nio.file.Files;
import java.nio.file.Path;

/**
 * One test for each sentence of the document that names a boundary, under that sentence's own words; that no sentence
 * on an exception or a range goes without a test is tested, too.
 */
public final class BoundaryTest {
    public static void main(String[] arguments) throws Exception {
        Checks checks = new Checks();
        Sentences sentences = new Sentences(Files.readString(Path.of(arguments[0])), checks);
        Boundaries[] all = {new TermBoundaries(sentences, checks), new GameBoundaries(sentences, checks),
            new AnswerBoundaries(sentences, checks), new WeighingBoundaries(sentences, checks),
            new TreeBoundaries(sentences, checks), new GridBoundaries(sentences, checks),
            new FigureBoundaries(sentences, checks)};
        for (Boundaries one : all) {
            one.all();
        }
        sentences.allAreTested();
        checks.end();
    }
}
