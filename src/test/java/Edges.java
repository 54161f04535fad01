import java.io.IOException;

/** A test of its own for each sentence of the document that names a boundary case; every word of its terms and promises is quoted. */
public final class Edges {
    public static void main(String[] args) throws IOException {
        Sentences.readDocument();
        EdgesOfTheRoad.all();
        EdgesOfCities.all();
        EdgesOfHours.all();
        EdgesOfQuestions.all();
        EdgesOfRefusals.all();
        EdgesOfPromises.all();
        Sentences.allIsQuoted("Terms|Promise .*");
        if (!Sentences.isAllRight()) {
            System.exit(1);
        }
    }
}
