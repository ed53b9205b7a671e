import java.io.IOException;
import java.nio.file.Path;

/** Every sentence of the document that a call could break, at its edges: the last that is allowed, the first that is not. */
public final class EdgesTest {
    private EdgesTest() {
    }

    public static void main(String[] args) throws IOException {
        Edges edges = new Edges(new Check(), Path.of(System.getProperty("shared", "../shared")));
        RuleEdges.test(edges);
        RowEdges.test(edges);
        LoanEdges.test(edges);
        BondEdges.test(edges);
        LifeEdges.test(edges);
        ShareEdges.test(edges);
        TaxEdges.test(edges);
        edges.end();
    }
}
