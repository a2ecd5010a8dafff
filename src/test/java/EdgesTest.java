import java.io.IOException;

/** The document, sentence by sentence: each boundary case that its words name, held to these words. */
public final class EdgesTest {
    private EdgesTest() {
    }

    public static void main(String[] args) throws IOException {
        Ledger ledger = new Ledger();
        Edges[] parts = {new FilmEdges(ledger), new TextEdges(ledger), new HandEdges(ledger), new PromiseEdges(ledger),
            new LaterPromiseEdges(ledger), new RefusedEdges(ledger)};
        for (Edges part : parts) {
            part.run();
        }
        System.exit(ledger.end() ? 0 : 1);
    }
}
