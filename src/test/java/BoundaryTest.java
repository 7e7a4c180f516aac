/** Each sentence of the document has a test that names it; those that name a boundary case have one for each of its sides. */
public final class BoundaryTest {
    private static final int PROMISES = 35;
    /** What no answer can be due by: the story that Terms begin with, and the interface's own headings. */
    private static final String[] STORY = {
        "Week by week the deepest stain is gone at, comes out, zinc wears to the bone, hearers are saved and lost; asked are: what is left when, who is saved, how many strokes bring a stain out on which board, boards for all stains by which none is worn through, the most stains on one board and their order, the best board, which stain it was by what was left, the strokes that tell most; sermons, stains deepened, boards mended, water, weeks by a seed with droughts; what was kept; acts undone; images.",
        "Ahead of the calls `strokes`, `needed`, `best`, `match`, `heads` the interface says: ---- strokes.",
        "Ahead of the calls `later`, `worn`, `saved`, `clean` the interface says: ---- ahead.",
        "Ahead of the calls `see`, `which`, `tells` the interface says: ---- which it was.",
        "Ahead of the calls `weeks`, `chance`, `sermon`, `soil`, `mend`, `pour`, `undo`, `seed`, `kept` the interface says: ---- acts.",
        "Ahead of the calls `image`, `octet`, `on`, `status` the interface says: ---- images, refusals."};

    public static void main(String[] args) {
        TextEdges.run();
        SumEdges.run();
        WeekEdges.run();
        TapeEdges.run();
        AskEdges.run();
        StrokesEdges.run();
        AheadEdges.run();
        SeenEdges.run();
        ActsEdges.run();
        ImageEdges.run();
        everySentenceIsNamed();
        Check.end();
    }

    private static void everySentenceIsNamed() {
        Check.terms(STORY);
        Check.itself();
        nothingIsUnnamed("Terms");
        for (int number = 1; number <= PROMISES; number++) {
            nothingIsUnnamed("Promise " + number);
        }
        Check.due("a promise more", Doc.has("Promise " + (PROMISES + 1)), false);
    }

    private static void nothingIsUnnamed(String part) {
        Check.due(part + " is in the document", Doc.has(part), true);
        Check.due(part + ", words that no test names: " + Doc.unnamed(part), Doc.unnamed(part).size(), 0);
    }
}
