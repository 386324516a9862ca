/** Each sentence of the terms that names a boundary case, with a test of its own. */
public final class EdgeTermsTest {
    public static void main(String[] args) {
        Sentences terms = new Sentences("Terms");
        RoadEdges.test(terms);
        PassageEdges.test(terms);
        DueEdges.test(terms);
        DisputeEdges.test(terms);
        RefusedEdges.test(terms);
        terms.end();
        Check.end("EdgeTermsTest");
    }
}
