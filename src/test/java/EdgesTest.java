/** Every sentence of the document that names a boundary case, each with a test of its own. */
public final class EdgesTest {
    private static final String[] PARTS = {
        "Promise 1", "Promise 2", "Promise 3", "Promise 4", "Promise 5", "Promise 6", "Promise 7", "Promise 8",
        "Promise 9", "Promise 10", "Promise 11", "Promise 12", "Promise 13", "Promise 14", "Promise 15", "Promise 16",
        "Terms ROWS", "Terms NUMBER", "Terms 1 CODES", "Terms 1 RIGHT", "Terms 1 ADDRESSES", "Terms 2 THE FORM",
        "Terms 2 READING", "Terms 2 sections", "Terms 3 SEGMENTS", "Terms 3 WAYS", "Terms 3 MODES", "Terms 3 CODES",
        "Terms 3 OWN TABLE", "Terms JOINED", "Terms ANSWERS"};

    private EdgesTest() {
    }

    public static void main(String[] args) {
        Edges edges = new Edges();
        new EdgesOfRows(edges).run();
        new EdgesOfTables(edges).run();
        new EdgesOfAddresses(edges).run();
        new EdgesOfFields(edges).run();
        new EdgesOfSections(edges).run();
        new EdgesOfReading(edges).run();
        new EdgesOfWriting(edges).run();
        new EdgesOfCodes(edges).run();
        new EdgesOfJoining(edges).run();
        new EdgesOfAnswers(edges).run();
        edges.end(PARTS);
    }
}
