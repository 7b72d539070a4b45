import java.io.IOException;

/** For each sentence of the document that names a boundary: calls at it, and one step to each side of it. */
public final class BoundaryTests extends Boundaries {

    private BoundaryTests() {
    }

    public static void main(String[] args) throws IOException {
        open();
        KiteBoundaries.all();
        BeatBoundaries.all();
        TextBoundaries.all();
        HistoryBoundaries.all();
        ToldBoundaries.all();
        allSentencesAreNamed();
        end("all boundaries hold");
    }
}
