import java.io.IOException;
import java.nio.file.Path;

/** A test of each sentence of the document that names a boundary case. The argument is the document's file. */
public final class BoundaryTest {
    public static void main(String[] args) throws IOException {
        TermsBoundaries.all();
        StepBoundaries.all();
        CansBoundaries.all();
        TextBoundaries.all();
        LookBoundaries.all();
        ForecastBoundaries.all();
        Sentence.compareWith(Path.of(args[0]), "What it is", "Not promised");
        Check.end("BoundaryTest");
    }
}
