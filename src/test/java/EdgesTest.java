/** All sentences of the document: what it calls too small, too large, empty, full, and refuses. */
final class EdgesTest {
    public static void main(String[] args) {
        Edges e = new Edges();
        TermsEdges.all(e);
        StepRuleEdges.all(e);
        TextRuleEdges.all(e);
        CoatEdges.all(e);
        StepsEdges.all(e);
        AdviceEdges.all(e);
        PayEdges.all(e);
        LackEdges.all(e);
        DrawEdges.all(e);
        TapeEdges.all(e);
        SheetEdges.all(e);
        ImageEdges.all(e);
        e.end();
    }
}
