import java.util.Arrays;

/** Readings that are right, and readings with a FAULT. */
final class Faults {
    private final Edges edges;

    Faults(Edges edges) {
        this.edges = edges;
    }

    /** SOURCE has the octets 0, 1, .. 99; TARGET has two. */
    static CodedDeltas object(int[] delta) {
        CodedDeltas x = new CodedDeltas();
        for (int i = 0; i < 100; i++) {
            x.feed(Rows.SOURCE, i, 1);
        }
        Rows.set(x, Rows.TARGET, 7, 7);
        Rows.set(x, Rows.DELTA, delta);
        return x;
    }

    CodedDeltas right(String what, int[] delta, int... made) {
        CodedDeltas x = object(delta);
        edges.is(what, x.read(), made.length);
        edges.is(what + ", FAULT", x.told(0), 0);
        edges.is(what + ", PLACE", x.told(1), 0);
        edges.isTrue(what + ", TARGET", Arrays.equals(Rows.get(x, Rows.TARGET), made));
        return x;
    }

    /** As right(), of a TARGET so long that its octets are not listed. */
    CodedDeltas makes(String what, int[] delta, int size) {
        CodedDeltas x = object(delta);
        edges.is(what, x.read(), size);
        edges.is(what + ", FAULT", x.told(0), 0);
        edges.is(what + ", length", x.length(Rows.TARGET), size);
        return x;
    }

    CodedDeltas wrong(String what, int[] delta, int fault, int place) {
        CodedDeltas x = object(delta);
        edges.is(what, x.read(), -10 - fault);
        edges.is(what + ", FAULT", x.told(0), fault);
        edges.is(what + ", PLACE", x.told(1), place);
        edges.isTrue(what + ", TARGET stays", Arrays.equals(Rows.get(x, Rows.TARGET), Rows.of(7, 7)));
        return x;
    }

    /** As wrong(), with how many windows were whole, and how many instructions there were. */
    void wrong(String what, int[] delta, int fault, int place, int windows, int instructions) {
        CodedDeltas x = wrong(what, delta, fault, place);
        edges.is(what + ", windows", x.told(2), windows);
        edges.is(what + ", instructions", x.told(3), instructions);
        edges.is(what + ", instructions that are told", State.count(x), instructions);
    }
}
