import java.io.IOException;
import java.nio.file.Path;

/** A test for each sentence of the document, named by its words. */
public final class SentencesTest {
    public static void main(String[] args) throws IOException {
        Sentences sentences = new Sentences(Path.of(args[0], "../shared/DOC.md"));
        Part[] parts = {new OfTheParish(sentences), new OfChoosing(sentences), new OfWhatComes(sentences),
            new OfTruth(sentences), new OfRefusals(sentences), new OfShelves(sentences), new OfPeople(sentences),
            new OfTelling(sentences), new OfYears(sentences), new OfEmptyAndFull(sentences)};
        for (Part part : parts) {
            part.ask();
        }
        sentences.end();
    }
}
