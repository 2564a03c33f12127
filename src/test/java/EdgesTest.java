import java.io.IOException;

/** Every sentence of the document that names an edge, each with a test of its own. */
public final class EdgesTest {
    public static void main(String[] args) throws IOException {
        Sentences s = new Sentences();
        new TermsEdges(s).run();
        new DaysEdges(s).run();
        new BillsEdges(s).run();
        new CustomEdges(s).run();
        new BookEdges(s).run();
        new CoinsEdges(s).run();
        new RatesEdges(s).run();
        new PartEdges(s).run();
        new TellEdges(s).run();
        s.end();
    }
}
